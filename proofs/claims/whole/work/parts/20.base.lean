def wM (h : Nat) (a : Nat → Nat) (cI cB cZ : ClassId) (F : Nat → Int32) (M : Nat → Nat → Int32) : va_W := [(h, .inr (10, [.int (F 0), .ref (a 1), .int (F 2), .int (F 3), .int (F 4), .ref (a 5), .ref (a 6), .int (F 7), .ref (a 8), .ref (a 9), .ref (a 10), .ref (a 11), .ref (a 12), .ref (a 13), .ref (a 14), .ref (a 15), .int (F 16), .ref (a 17), .ref (a 18), .ref (a 19), .ref (a 20), .int (F 21), .ref (a 22), .ref (a 23), .ref (a 24), .int (F 25), .ref (a 26), .ref (a 27), .ref (a 28), .ref (a 29), .ref (a 30), .ref (a 31), .int (F 32), .ref (a 33), .ref (a 34), .ref (a 35), .ref (a 36), .ref (a 37), .int (F 38), .ref (a 39), .ref (a 40), .ref (a 41), .ref (a 42), .ref (a 43), .ref (a 44), .ref (a 45), .ref (a 46), .ref (a 47), .ref (a 48)])), (a 1, .inl (cI, 6, .inl (M 1))), (a 5, .inl (cI, 6, .inl (M 5))), (a 6, .inl (cI, 6, .inl (M 6))), (a 8, .inl (cI, 24, .inl (M 8))), (a 9, .inl (cI, 24, .inl (M 9))), (a 10, .inl (cI, 24, .inl (M 10))), (a 11, .inl (cI, 24, .inl (M 11))), (a 12, .inl (cI, 24, .inl (M 12))), (a 13, .inl (cI, 24, .inl (M 13))), (a 14, .inl (cI, 24, .inl (M 14))), (a 15, .inl (cI, 24, .inl (M 15))), (a 17, .inl (cI, 100, .inl (M 17))), (a 18, .inl (cI, 100, .inl (M 18))), (a 19, .inl (cI, 100, .inl (M 19))), (a 20, .inl (cI, 100, .inl (M 20))), (a 22, .inl (cI, 12, .inl (M 22))), (a 23, .inl (cI, 12, .inl (M 23))), (a 24, .inl (cZ, 12, .inl (M 24))), (a 26, .inl (cI, 12, .inl (M 26))), (a 27, .inl (cI, 12, .inl (M 27))), (a 28, .inl (cI, 12, .inl (M 28))), (a 29, .inl (cI, 12, .inl (M 29))), (a 30, .inl (cI, 12, .inl (M 30))), (a 31, .inl (cI, 12, .inl (M 31))), (a 33, .inl (cI, 20, .inl (M 33))), (a 34, .inl (cI, 20, .inl (M 34))), (a 35, .inl (cZ, 20, .inl (M 35))), (a 36, .inl (cI, 4, .inl (M 36))), (a 37, .inl (cI, 4, .inl (M 37))), (a 39, .inl (cI, 60, .inl (M 39))), (a 40, .inl (cI, 60, .inl (M 40))), (a 41, .inl (cI, 60, .inl (M 41))), (a 42, .inl (cI, 72, .inl (M 42))), (a 43, .inl (cI, 4, .inl (M 43))), (a 44, .inl (cB, 48, .inl (M 44))), (a 45, .inl (cB, 12, .inl (M 45))), (a 46, .inl (cI, 961, .inl (M 46))), (a 47, .inl (cI, 31, .inl (M 47))), (a 48, .inl (cI, 31, .inl (M 48)))]

def pM (dC : Nat → ClassId) (dI : Nat → Nat → Nat) (h : Nat) (a : Nat → Nat) (cI cB cZ : ClassId) (F : Nat → Int32) (M : Nat → Nat → Int32) : State → Prop := fun U => va_P (dC, dI) vwCl (wM h a cI cB cZ F M) U.heap ∧ va_K (dC, dI) vwCl [(cI, .int), (cB, .byte), (cZ, .boolean)] U
def qM (A : Nat → Prop) (dC : Nat → ClassId) (dI : Nat → Nat → Nat) (h : Nat) (a : Nat → Nat) (cI cB cZ : ClassId) (u : (Nat → Int32) × (Nat → Nat → Int32)) (t : State) : Prop := pM dC dI h a cI cB cZ u.1 u.2 t ∧ va_D A (wM h a cI cB cZ u.1 u.2)
theorem pm_blind {av : List Value} {dC : Nat → ClassId} {dI : Nat → Nat → Nat} {h : Nat} {a : Nat → Nat} {cI cB cZ : ClassId} {F : Nat → Int32} {M : Nat → Nat → Int32} : FrameBlind (va_Pc av (pM dC dI h a cI cB cZ F M)) := fun a U g mk q => ⟨q.1, q.2.1, va_K.moved (u := U) (U := U.calling g mk a) (Vm.Alike.refl U.vm) q.2.2⟩
theorem bo_t {C : Prop} [Decidable C] (h : ¬ ((if C then (1 : Int32) else 0) = 0)) : C := by
  by_cases c : C
  · exact c
  · exact absurd (if_neg c) h
theorem bo_f {C : Prop} [Decidable C] (h : (if C then (1 : Int32) else 0) = 0) : ¬ C := by
  intro c
  rw [if_pos c] at h
  exact absurd h (by decide)
theorem bo_n (C : Prop) [Decidable C] : narrow .boolean (.int (if C then (1 : Int32) else 0)) = .int (if C then (1 : Int32) else 0) := by
  by_cases c : C
  · rw [if_pos c]; rfl
  · rw [if_neg c]; rfl
theorem ib_lt {x y : Int32} : x < y ↔ x.toInt < y.toInt := Int32.lt_iff_toInt_lt
theorem ib_le {x y : Int32} : x ≤ y ↔ x.toInt ≤ y.toInt := Int32.le_iff_toInt_le
theorem ib_eq {x y : Int32} : x = y ↔ x.toInt = y.toInt := Int32.toInt_inj.symm
theorem ib_rng (x : Int32) : -2147483648 ≤ x.toInt ∧ x.toInt < 2147483648 := ⟨Int32.le_toInt x, Int32.toInt_lt x⟩
theorem ib_sub {x y : Int32} (h1 : -2147483648 ≤ x.toInt - y.toInt) (h2 : x.toInt - y.toInt < 2147483648) : (x - y).toInt = x.toInt - y.toInt := by
  rw [Int32.toInt_sub]
  exact Int.bmod_eq_of_le (by omega) (by omega)
theorem ib_add {x y : Int32} (h1 : -2147483648 ≤ x.toInt + y.toInt) (h2 : x.toInt + y.toInt < 2147483648) : (x + y).toInt = x.toInt + y.toInt := by
  rw [Int32.toInt_add]
  exact Int.bmod_eq_of_le (by omega) (by omega)
theorem ib_mul {x y : Int32} (h1 : -2147483648 ≤ x.toInt * y.toInt) (h2 : x.toInt * y.toInt < 2147483648) : (x * y).toInt = x.toInt * y.toInt := by
  rw [Int32.toInt_mul]
  exact Int.bmod_eq_of_le (by omega) (by omega)
theorem ib_0 : (0 : Int32).toInt = 0 := by decide
theorem ib_1 : (1 : Int32).toInt = 1 := by decide
theorem ib_in {x K lo : Int32} {N : Nat} (h : lo ≤ x ∧ x ≤ K) (hK : 0 ≤ lo.toInt ∧ K.toInt < (N : Int)) : vp_in x N := by
  have h1 := ib_le.mp h.1
  have h2 := ib_le.mp h.2
  exact vp_in_iff.mpr ⟨by omega, by omega⟩
theorem ib_cn {x y K : Int32} {N : Nat} (h : 0 ≤ x ∧ x ≤ y - 1) (hy : 0 ≤ y ∧ y ≤ K) (hK : K.toInt ≤ (N : Int)) : vp_in x N := by
  have h1 := ib_le.mp h.1
  have h2 := ib_le.mp h.2
  have h3 := ib_le.mp hy.1
  have h4 := ib_le.mp hy.2
  rw [ib_0] at h1 h3
  have h5 := ib_rng y
  rw [ib_sub (by rw [ib_1]; omega) (by rw [ib_1]; omega), ib_1] at h2
  exact vp_in_iff.mpr ⟨h1, by omega⟩
theorem ib_ct {x K : Int32} {N : Nat} (h : 0 ≤ x ∧ x ≤ K) (hne : ¬ x = K) (hK : K.toInt ≤ (N : Int)) : vp_in x N := by
  have h1 := ib_le.mp h.1
  have h2 := ib_le.mp h.2
  rw [ib_0] at h1
  have h3 : ¬ x.toInt = K.toInt := fun q => hne (ib_eq.mpr q)
  exact vp_in_iff.mpr ⟨h1, by omega⟩
theorem ib_lit {x : Int32} {N : Nat} (h : 0 ≤ x.toInt ∧ x.toInt < (N : Int)) : vp_in x N := vp_in_iff.mpr h
theorem lb_n {B : Int32} {N i : Nat} (h : B.toInt = (N : Int)) (hi : i < N) : ¬ B ≤ nI i := by
  have hr := ib_rng B
  intro q
  have q2 := ib_le.mp q
  rw [nI_toInt (by omega)] at q2
  omega
theorem lb_y {B : Int32} {N : Nat} (h : B.toInt = (N : Int)) : B ≤ nI N := by
  have hr := ib_rng B
  apply ib_le.mpr
  rw [nI_toInt (by omega)]
  omega
theorem lb_nc {B : Int32} {i : Nat} (hi : i < B.toNatClampNeg) : ¬ B ≤ nI i := by
  have hr := ib_rng B
  rw [Int32.toNatClampNeg] at hi
  intro q
  have q2 := ib_le.mp q
  rw [nI_toInt (by omega)] at q2
  omega
theorem lb_yc {B : Int32} : B ≤ nI B.toNatClampNeg := by
  have hr := ib_rng B
  have hc : B.toNatClampNeg = B.toInt.toNat := rfl
  apply ib_le.mpr
  rw [nI_toInt (by omega)]
  omega
theorem lb_c {x : Int32} (h : 0 ≤ x) : x.toInt = ((x.toNatClampNeg : Nat) : Int) := by
  have h1 := ib_le.mp h
  rw [ib_0] at h1
  rw [Int32.toNatClampNeg]
  exact (Int.toNat_of_nonneg h1).symm
theorem lb_le {x K : Int32} {N : Nat} (h : 0 ≤ x ∧ x ≤ K) (hK : K.toInt ≤ (N : Int)) : x.toNatClampNeg ≤ N := by
  have h1 := lb_c h.1
  have h2 := ib_le.mp h.2
  omega
theorem ib_cl {x : Int32} {N : Nat} (h : vp_in x N) : x.toInt = ((x.toNatClampNeg : Nat) : Int) ∧ x.toNatClampNeg < N := by
  have h1 := vp_in_iff.mp h
  have h2 : x.toInt = ((x.toNatClampNeg : Nat) : Int) := by
    rw [Int32.toNatClampNeg]
    exact (Int.toNat_of_nonneg h1.1).symm
  exact ⟨h2, by omega⟩
theorem ib_12 {x y : Int32} {S N : Nat} (h1 : vp_in x S) (h2 : vp_in y 12) (hN : 12 * S ≤ N ∧ S < 1000) : vp_in (12 * x + y) N := by
  have a1 := vp_in_iff.mp h1
  have a2 := vp_in_iff.mp h2
  have e12 : (12 : Int32).toInt = 12 := by decide
  have e1 : (12 * x).toInt = 12 * x.toInt := by rw [ib_mul (by rw [e12]; omega) (by rw [e12]; omega), e12]
  have e2 : (12 * x + y).toInt = 12 * x.toInt + y.toInt := by rw [ib_add (by rw [e1]; omega) (by rw [e1]; omega), e1]
  exact vp_in_iff.mpr (by rw [e2]; omega)
theorem nar01 {x : Int32} (h : x = 0 ∨ x = 1) : narrow .boolean (.int x) = .int x := by
  rcases h with h | h <;> rw [h] <;> rfl
theorem ib_inF {x : Int32} {n N : Nat} (h : x = -9 ∨ ∃ j, j < n ∧ x = nI j) (hne : ¬ x = -9) (hn : n ≤ N ∧ N < 2 ^ 31) : vp_in x N := by
  rcases h with h | ⟨j, h1, h2⟩
  · exact absurd h hne
  · rw [h2]; exact vp_in_nI (by omega) hn.2
theorem nx_in {x : Int32} {n N : Nat} (h : x = nI n) (hn : n < N) (hN : N < 2 ^ 31) : vp_in x N := by
  rw [h]; exact vp_in_nI hn hN
theorem nx_cl {x : Int32} {n : Nat} (h : x = nI n) (hn : n < 2 ^ 31) : x.toNatClampNeg = n := by
  rw [h]; exact nI_clamp hn
section LP
variable {p : Program} {l : Launch} {e : Env} {R : Room} {s : State} {m : MethodId} {args : Array Value} {below : List Frame} {meth : Method} {c : Code} {H : Heap} {locs : List Loc} {cells slots : Nat} {Q : State → Prop}
theorem lp_for {pc nL N : Nat} {lv : Nat → List (Nat × Value)} {ls : Array Slot} (h0 : lv_has ls nL (lv 0))
    (step : ∀ i, i < N → ∀ ls : Array Slot, lv_has ls nL (lv i) → (∀ ls' : Array Slot, lv_has ls' nL (lv (i + 1)) → W p l e R s m args below meth c H locs cells slots Q (F0 m pc ls' [])) → W p l e R s m args below meth c H locs cells slots Q (F0 m pc ls []))
    (exit : ∀ ls : Array Slot, lv_has ls nL (lv N) → W p l e R s m args below meth c H locs cells slots Q (F0 m pc ls [])) : W p l e R s m args below meth c H locs cells slots Q (F0 m pc ls []) := by
  have key : ∀ n i, i + n = N → ∀ ls : Array Slot, lv_has ls nL (lv i) → W p l e R s m args below meth c H locs cells slots Q (F0 m pc ls []) := by
    intro n
    induction n with
    | zero => intro i hi ls hl; rw [Nat.add_zero] at hi; subst hi; exact exit ls hl
    | succ n ih => intro i hi ls hl; exact step i (by omega) ls hl (fun ls' hl' => ih (i + 1) (by omega) ls' hl')
  exact key N 0 (Nat.zero_add N) ls h0
theorem lp_forH {pc nL N : Nat} {lv : Nat → List (Nat × Value)} {D : va_G} {cl : List vw_C} {A : Nat → Prop} {H0 : Heap} {wd : Nat → va_W} {ls : Array Slot} (hP : va_P D cl (wd 0) H) (hD : va_D A (wd 0)) (hS : va_S A H0 H locs) (h0 : lv_has ls nL (lv 0))
    (step : ∀ i, i < N → ∀ (ls : Array Slot) (H : Heap) (locs : List Loc), lv_has ls nL (lv i) → va_P D cl (wd i) H → va_D A (wd i) → va_S A H0 H locs → (∀ (ls' : Array Slot) (H : Heap) (locs : List Loc), lv_has ls' nL (lv (i + 1)) → va_P D cl (wd (i + 1)) H → va_D A (wd (i + 1)) → va_S A H0 H locs → W p l e R s m args below meth c H locs cells slots Q (F0 m pc ls' [])) → W p l e R s m args below meth c H locs cells slots Q (F0 m pc ls []))
    (exit : ∀ (ls : Array Slot) (H : Heap) (locs : List Loc), lv_has ls nL (lv N) → va_P D cl (wd N) H → va_D A (wd N) → va_S A H0 H locs → W p l e R s m args below meth c H locs cells slots Q (F0 m pc ls [])) : W p l e R s m args below meth c H locs cells slots Q (F0 m pc ls []) := by
  have key : ∀ n i, i + n = N → ∀ (ls : Array Slot) (H : Heap) (locs : List Loc), lv_has ls nL (lv i) → va_P D cl (wd i) H → va_D A (wd i) → va_S A H0 H locs → W p l e R s m args below meth c H locs cells slots Q (F0 m pc ls []) := by
    intro n
    induction n with
    | zero => intro i hi ls H locs hl hP hD hS; rw [Nat.add_zero] at hi; subst hi; exact exit ls H locs hl hP hD hS
    | succ n ih => intro i hi ls H locs hl hP hD hS; exact step i (by omega) ls H locs hl hP hD hS (fun ls' H locs hl' hP hD hS => ih (i + 1) (by omega) ls' H locs hl' hP hD hS)
  exact key N 0 (Nat.zero_add N) ls H locs h0 hP hD hS
end LP
theorem ts_out4 {x : Int32} (c0 : ¬ x = 0) (c1 : ¬ x = 1) (c2 : ¬ x = 2) (c3 : ¬ x = 3) : x.toInt < 0 ∨ 3 < x.toInt := by
  have e0 : ¬ x.toInt = 0 := fun q => c0 (ib_eq.mpr q)
  have e1 : ¬ x.toInt = 1 := fun q => c1 (ib_eq.mpr q)
  have e2 : ¬ x.toInt = 2 := fun q => c2 (ib_eq.mpr q)
  have e3 : ¬ x.toInt = 3 := fun q => c3 (ib_eq.mpr q)
  omega
theorem ts_out8 {x : Int32} (c0 : ¬ x = 0) (c1 : ¬ x = 1) (c2 : ¬ x = 2) (c3 : ¬ x = 3) (c4 : ¬ x = 4) (c5 : ¬ x = 5) (c6 : ¬ x = 6) (c7 : ¬ x = 7) : x.toInt < 0 ∨ 7 < x.toInt := by
  have e0 : ¬ x.toInt = 0 := fun q => c0 (ib_eq.mpr q)
  have e1 : ¬ x.toInt = 1 := fun q => c1 (ib_eq.mpr q)
  have e2 : ¬ x.toInt = 2 := fun q => c2 (ib_eq.mpr q)
  have e3 : ¬ x.toInt = 3 := fun q => c3 (ib_eq.mpr q)
  have e4 : ¬ x.toInt = 4 := fun q => c4 (ib_eq.mpr q)
  have e5 : ¬ x.toInt = 5 := fun q => c5 (ib_eq.mpr q)
  have e6 : ¬ x.toInt = 6 := fun q => c6 (ib_eq.mpr q)
  have e7 : ¬ x.toInt = 7 := fun q => c7 (ib_eq.mpr q)
  omega
theorem ts_out7 {x : Int32} (c0 : ¬ x = 0) (c1 : ¬ x = 1) (c2 : ¬ x = 2) (c3 : ¬ x = 3) (c4 : ¬ x = 4) (c5 : ¬ x = 5) (c6 : ¬ x = 6) : x.toInt < 0 ∨ 6 < x.toInt := by
  have e0 : ¬ x.toInt = 0 := fun q => c0 (ib_eq.mpr q)
  have e1 : ¬ x.toInt = 1 := fun q => c1 (ib_eq.mpr q)
  have e2 : ¬ x.toInt = 2 := fun q => c2 (ib_eq.mpr q)
  have e3 : ¬ x.toInt = 3 := fun q => c3 (ib_eq.mpr q)
  have e4 : ¬ x.toInt = 4 := fun q => c4 (ib_eq.mpr q)
  have e5 : ¬ x.toInt = 5 := fun q => c5 (ib_eq.mpr q)
  have e6 : ¬ x.toInt = 6 := fun q => c6 (ib_eq.mpr q)
  omega
def iv (F : Nat → Int32) (M : Nat → Nat → Int32) : Prop := (0 ≤ F 3 ∧ F 3 ≤ 30000) ∧ (0 ≤ F 4 ∧ F 4 ≤ 16) ∧ (0 ≤ F 7 ∧ F 7 ≤ 24) ∧ (0 ≤ F 16 ∧ F 16 ≤ 100) ∧ (0 ≤ F 21 ∧ F 21 ≤ 12) ∧ (0 ≤ F 25 ∧ F 25 ≤ 12) ∧ (0 ≤ F 32 ∧ F 32 ≤ 20) ∧ (0 ≤ F 38 ∧ F 38 ≤ 60) ∧ (∀ j, j < 4 → -1 ≤ M 43 j ∧ M 43 j ≤ 12)
theorem iv_3 {F : Nat → Int32} {M : Nat → Nat → Int32} (h : iv F M) : 0 ≤ F 3 ∧ F 3 ≤ 30000 := h.1
theorem iv_4 {F : Nat → Int32} {M : Nat → Nat → Int32} (h : iv F M) : 0 ≤ F 4 ∧ F 4 ≤ 16 := h.2.1
theorem iv_7 {F : Nat → Int32} {M : Nat → Nat → Int32} (h : iv F M) : 0 ≤ F 7 ∧ F 7 ≤ 24 := h.2.2.1
theorem iv_16 {F : Nat → Int32} {M : Nat → Nat → Int32} (h : iv F M) : 0 ≤ F 16 ∧ F 16 ≤ 100 := h.2.2.2.1
theorem iv_21 {F : Nat → Int32} {M : Nat → Nat → Int32} (h : iv F M) : 0 ≤ F 21 ∧ F 21 ≤ 12 := h.2.2.2.2.1
theorem iv_25 {F : Nat → Int32} {M : Nat → Nat → Int32} (h : iv F M) : 0 ≤ F 25 ∧ F 25 ≤ 12 := h.2.2.2.2.2.1
theorem iv_32 {F : Nat → Int32} {M : Nat → Nat → Int32} (h : iv F M) : 0 ≤ F 32 ∧ F 32 ≤ 20 := h.2.2.2.2.2.2.1
theorem iv_38 {F : Nat → Int32} {M : Nat → Nat → Int32} (h : iv F M) : 0 ≤ F 38 ∧ F 38 ≤ 60 := h.2.2.2.2.2.2.2.1
theorem iv_sz {F : Nat → Int32} {M : Nat → Nat → Int32} (h : iv F M) : ∀ j, j < 4 → -1 ≤ M 43 j ∧ M 43 j ≤ 12 := h.2.2.2.2.2.2.2.2
theorem ib_sz {F : Nat → Int32} {M : Nat → Nat → Int32} {x y : Int32} (h : iv F M) (hy : vp_in y 4) (c : 0 ≤ x ∧ x ≤ M 43 y.toNatClampNeg - 1) : vp_in x 12 := by
  have h1 := iv_sz h _ (ib_cl hy).2
  have h2 := ib_le.mp h1.1
  have h3 := ib_le.mp h1.2
  have h4 := ib_le.mp c.1
  have h5 := ib_le.mp c.2
  have e12 : (12 : Int32).toInt = 12 := by decide
  have em : (-1 : Int32).toInt = -1 := by decide
  rw [e12] at h3
  rw [em] at h2
  rw [ib_0] at h4
  rw [ib_sub (by rw [ib_1]; omega) (by rw [ib_1]; omega), ib_1] at h5
  exact vp_in_iff.mpr ⟨h4, by omega⟩
theorem ib_s12 {F : Nat → Int32} {M : Nat → Nat → Int32} (hI : iv F M) {j : Nat} (hj : j < 4) : (M 43 j).toNatClampNeg ≤ 12 := by
  have h3 := ib_le.mp (iv_sz hI j hj).2
  have e12 : (12 : Int32).toInt = 12 := by decide
  rw [Int32.toNatClampNeg]
  omega
theorem ib_c31 (x : Int32) : x.toNatClampNeg < 2 ^ 31 := by
  have h := ib_rng x
  rw [Int32.toNatClampNeg]
  omega
theorem ib_cp {F : Nat → Int32} {M : Nat → Nat → Int32} {s i n : Int32} {k : Nat} (hI : iv F M) (hs : vp_in s 4) (ci : ¬ i < 0) (cn : ¬ n < 0) (cl : ¬ 0 < lg_cmp (i.toInt64 + n.toInt64) (M 43 s.toNatClampNeg).toInt64) (hk : k < n.toNatClampNeg) : vp_in ((12 * s + i) + nI k) 48 ∧ k < 12 := by
  have h1 := iv_sz hI _ (ib_cl hs).2
  have h3 := ib_le.mp h1.2
  have e12 : (12 : Int32).toInt = 12 := by decide
  rw [e12] at h3
  have hi := ib_le.mp (Int32.not_lt.mp ci)
  have hn := lb_c (Int32.not_lt.mp cn)
  rw [ib_0] at hi
  have hi2 := ib_rng i
  have hn2 := ib_rng n
  rw [lg_cmp_gt] at cl
  have cl2 : ¬ (M 43 s.toNatClampNeg).toInt64.toInt < (i.toInt64 + n.toInt64).toInt := fun q => cl (Int64.lt_iff_toInt_lt.mpr q)
  rw [Int64.toInt_add, Int32.toInt_toInt64, Int32.toInt_toInt64, Int32.toInt_toInt64, Int.bmod_eq_of_le (by omega) (by omega)] at cl2
  have a1 := vp_in_iff.mp hs
  have ek : (nI k).toInt = k := nI_toInt (by omega)
  have e1 : (12 * s).toInt = 12 * s.toInt := by rw [ib_mul (by rw [e12]; omega) (by rw [e12]; omega), e12]
  have e2 : (12 * s + i).toInt = 12 * s.toInt + i.toInt := by rw [ib_add (by rw [e1]; omega) (by rw [e1]; omega), e1]
  have e3 : ((12 * s + i) + nI k).toInt = 12 * s.toInt + i.toInt + k := by rw [ib_add (by rw [e2, ek]; omega) (by rw [e2, ek]; omega), e2, ek]
  exact ⟨vp_in_iff.mpr (by rw [e3]; omega), by omega⟩

