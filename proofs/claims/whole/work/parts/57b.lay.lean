def lyA (c : Nat → Int32) (p : Int32) (x q : Nat) : Int32 := if ((p >>> ((nI (q + 1)) &&& 31)) &&& 1) = 1 then (if c (12 * (q + 1) + x) ≤ 1 then 0 else 1) else 0
def lyB (c : Nat → Int32) (p : Int32) (x q : Nat) : Int32 := if ((p >>> ((nI (q + 1)) &&& 31)) &&& 1) = 1 then (if c (12 * (q + 1) + x) = 0 then 1 else 0) else 0
def lyE (c : Nat → Int32) (x : Nat) : Int32 := if c x = 0 then 1 else 0
def lyD (c : Nat → Int32) (x : Nat) : Int32 := if c x ≤ 1 then 0 else c x - 1
theorem lay3_s (F : Nat → Int32) (M : Nat → Nat → Int32) (p : Int32) (x : Nat) (z : Nat → Int32) (q : Nat) : L_lay3 F M p x z (q + 1) = upd (upd (L_lay3 F M p x z q) (31 * (1 + x) + 12 + (q + 1)) (lyA (M 42) p x q)) (31 * (12 + (q + 1)) + 18 + x) (lyB (M 42) p x q) := by
  rw [L_lay3]
  unfold lyA lyB
  by_cases c1 : ((p >>> ((nI (q + 1)) &&& 31)) &&& 1) = 1
  · simp only [if_pos c1]
    by_cases c2 : M 42 (12 * (q + 1) + x) ≤ 1
    · simp only [if_pos c2]
      by_cases c3 : M 42 (12 * (q + 1) + x) = 0
      · simp only [if_pos c3]
      · simp only [if_neg c3]
    · simp only [if_neg c2]
      by_cases c3 : M 42 (12 * (q + 1) + x) = 0
      · simp only [if_pos c3]
      · simp only [if_neg c3]
  · simp only [if_neg c1]
theorem lay2_s (F : Nat → Int32) (M : Nat → Nat → Int32) (p : Int32) (x : Nat) : L_lay2 F M p (x + 1) = L_lay3 F M p x (upd (upd (L_lay2 F M p x) (1 + x) (lyE (M 42) x)) (31 * (18 + x) + 30) (lyD (M 42) x)) 5 := by
  rw [L_lay2]
  unfold lyE lyD
  by_cases c1 : M 42 x = 0
  · simp only [if_pos c1]
    by_cases c2 : M 42 x ≤ 1
    · simp only [if_pos c2]
    · simp only [if_neg c2]
  · simp only [if_neg c1]
    by_cases c2 : M 42 x ≤ 1
    · simp only [if_pos c2]
    · simp only [if_neg c2]
theorem lay1_z (F : Nat → Int32) (M : Nat → Nat → Int32) (p : Int32) : ∀ n k, k < n → L_lay1 F M p n k = 0 := by
  intro n
  induction n with
  | zero => intro k h; omega
  | succ n ih =>
    intro k hk
    rw [L_lay1]
    by_cases c : k = n
    · subst c; rw [up_at]
    · rw [up_ne c]; exact ih k (by omega)
theorem lay3_f (F : Nat → Int32) (M : Nat → Nat → Int32) (p : Int32) (x : Nat) (z : Nat → Int32) (k : Nat) : ∀ n, (∀ q, q < n → ¬ k = 31 * (1 + x) + 12 + (q + 1) ∧ ¬ k = 31 * (12 + (q + 1)) + 18 + x) → L_lay3 F M p x z n k = z k := by
  intro n
  induction n with
  | zero => intro _; rfl
  | succ n ih =>
    intro h
    have h1 := h n (Nat.lt_succ_self n)
    rw [lay3_s, up_ne h1.2, up_ne h1.1]
    exact ih (fun q hq => h q (by omega))
theorem lay2_f (F : Nat → Int32) (M : Nat → Nat → Int32) (p : Int32) (k : Nat) : ∀ n, (∀ y, y < n → ¬ k = 1 + y ∧ ¬ k = 31 * (18 + y) + 30 ∧ ∀ q, q < 5 → ¬ k = 31 * (1 + y) + 12 + (q + 1) ∧ ¬ k = 31 * (12 + (q + 1)) + 18 + y) → L_lay2 F M p n k = L_lay1 F M p 961 k := by
  intro n
  induction n with
  | zero => intro _; rw [L_lay2]
  | succ n ih =>
    intro h
    have h1 := h n (Nat.lt_succ_self n)
    rw [lay2_s, lay3_f F M p n _ k 5 h1.2.2, up_ne h1.2.1, up_ne h1.1]
    exact ih (fun y hy => h y (by omega))
def wI (b : Bool) (v : Int32) : Int := if b then v.toInt else 0
def asum (w : Nat → Bool) (c : Nat → Int32) (p : Int32) (x : Nat) : Nat → Int
  | 0 => 0
  | q + 1 => asum w c p x q + wI (w (31 * (1 + x) + 12 + (q + 1))) (lyA c p x q) + wI (w (31 * (12 + (q + 1)) + 18 + x)) (lyB c p x q)
def bsum (w : Nat → Bool) (c : Nat → Int32) (p : Int32) : Nat → Int
  | 0 => 0
  | x + 1 => bsum w c p x + wI (w (1 + x)) (lyE c x) + wI (w (31 * (18 + x) + 30)) (lyD c x) + asum w c p x 5
theorem csum_0 {w : Nat → Bool} {R : Nat → Int32} {k n : Nat} {v : Int32} (hk : k < n) (h0 : R k = 0) : csum w (upd R k v) n = csum w R n + wI (w k) v := by
  rw [csum_up, if_pos hk, h0, ib_0]
  unfold wI
  split <;> omega
theorem lay3_c (w : Nat → Bool) (F : Nat → Int32) (M : Nat → Nat → Int32) (p : Int32) {x : Nat} (hx : x < 12) (z : Nat → Int32) (hz : ∀ q, q < 5 → z (31 * (1 + x) + 12 + (q + 1)) = 0 ∧ z (31 * (12 + (q + 1)) + 18 + x) = 0) : ∀ n, n ≤ 5 → csum w (L_lay3 F M p x z n) 961 = csum w z 961 + asum w (M 42) p x n := by
  intro n
  induction n with
  | zero => intro _; show csum w z 961 = csum w z 961 + 0; omega
  | succ n ih =>
    intro hn
    have h1 := hz n (by omega)
    rw [lay3_s, csum_0 (by omega) ?_, csum_0 (by omega) ?_, ih (by omega), asum]
    · omega
    · rw [lay3_f F M p x z _ n (fun q hq => ⟨by omega, by omega⟩)]; exact h1.1
    · rw [up_ne (by omega), lay3_f F M p x z _ n (fun q hq => ⟨by omega, by omega⟩)]; exact h1.2
theorem csum_z {w : Nat → Bool} {R : Nat → Int32} : ∀ n, (∀ k, k < n → R k = 0) → csum w R n = 0 := by
  intro n
  induction n with
  | zero => intro _; rfl
  | succ n ih =>
    intro h
    rw [csum, ih (fun k hk => h k (by omega)), h n (Nat.lt_succ_self n), ib_0]
    split <;> rfl
theorem lay2_c (w : Nat → Bool) (F : Nat → Int32) (M : Nat → Nat → Int32) (p : Int32) : ∀ n, n ≤ 12 → csum w (L_lay2 F M p n) 961 = bsum w (M 42) p n := by
  intro n
  induction n with
  | zero =>
    intro _
    rw [L_lay2]
    exact csum_z 961 (lay1_z F M p 961)
  | succ n ih =>
    intro hn
    rw [lay2_s, lay3_c w F M p (by omega) _ ?_ 5 (Nat.le_refl 5), csum_0 (by omega) ?_, csum_0 (by omega) ?_, ih (by omega), bsum]
    · rw [lay2_f F M p _ n (fun y hy => ⟨by omega, by omega, fun q hq => ⟨by omega, by omega⟩⟩)]
      exact lay1_z F M p 961 _ (by omega)
    · rw [up_ne (by omega), lay2_f F M p _ n (fun y hy => ⟨by omega, by omega, fun q hq => ⟨by omega, by omega⟩⟩)]
      exact lay1_z F M p 961 _ (by omega)
    · intro q hq
      constructor
      · rw [up_ne (by omega), up_ne (by omega), lay2_f F M p _ n (fun y hy => ⟨by omega, by omega, fun q hq => ⟨by omega, by omega⟩⟩)]
        exact lay1_z F M p 961 _ (by omega)
      · rw [up_ne (by omega), up_ne (by omega), lay2_f F M p _ n (fun y hy => ⟨by omega, by omega, fun q hq => ⟨by omega, by omega⟩⟩)]
        exact lay1_z F M p 961 _ (by omega)
def in9 (v : Int32) : Prop := 0 ≤ v.toInt ∧ v.toInt ≤ 9
theorem in9_0 : in9 0 := by unfold in9; decide
theorem in9_1 : in9 1 := by unfold in9; decide
theorem in9_up {f : Nat → Int32} {k : Nat} {v : Int32} (hv : in9 v) (h : ∀ j, j < 961 → in9 (f j)) : ∀ j, j < 961 → in9 (upd f k v j) := by
  intro j hj
  by_cases c : j = k
  · subst c; rw [up_at]; exact hv
  · rw [up_ne c]; exact h j hj
theorem lyA_9 (c : Nat → Int32) (p : Int32) (x q : Nat) : lyA c p x q = 0 ∨ lyA c p x q = 1 := by
  unfold lyA
  repeat' split
  all_goals first | exact Or.inl rfl | exact Or.inr rfl
theorem lyB_9 (c : Nat → Int32) (p : Int32) (x q : Nat) : lyB c p x q = 0 ∨ lyB c p x q = 1 := by
  unfold lyB
  repeat' split
  all_goals first | exact Or.inl rfl | exact Or.inr rfl
theorem lyE_9 (c : Nat → Int32) (x : Nat) : lyE c x = 0 ∨ lyE c x = 1 := by
  unfold lyE
  split
  · exact Or.inr rfl
  · exact Or.inl rfl
theorem in9_01 {v : Int32} (h : v = 0 ∨ v = 1) : in9 v := by
  rcases h with h | h <;> rw [h]
  · exact in9_0
  · exact in9_1
theorem lyD_9 {c : Nat → Int32} {x : Nat} (h : in9 (c x)) : in9 (lyD c x) := by
  unfold lyD
  split
  · exact in9_0
  · rename_i h1
    have h2 := ib_lt.mp (Int32.not_le.mp h1)
    rw [ib_1] at h2
    unfold in9 at h ⊢
    rw [gb_m1 (by omega)]
    omega
theorem lay3_9 (F : Nat → Int32) (M : Nat → Nat → Int32) (p : Int32) (x : Nat) (z : Nat → Int32) (hz : ∀ j, j < 961 → in9 (z j)) : ∀ n j, j < 961 → in9 (L_lay3 F M p x z n j) := by
  intro n
  induction n with
  | zero => exact hz
  | succ n ih => rw [lay3_s]; exact in9_up (in9_01 (lyB_9 _ _ _ _)) (in9_up (in9_01 (lyA_9 _ _ _ _)) ih)
theorem lay2_9 {F : Nat → Int32} {M : Nat → Nat → Int32} (hc : ∀ x, x < 12 → in9 (M 42 x)) (p : Int32) : ∀ n, n ≤ 12 → ∀ j, j < 961 → in9 (L_lay2 F M p n j) := by
  intro n
  induction n with
  | zero => intro _ j hj; rw [L_lay2, lay1_z F M p 961 j hj]; exact in9_0
  | succ n ih =>
    intro hn
    rw [lay2_s]
    exact lay3_9 F M p n _ (in9_up (lyD_9 (hc n (by omega))) (in9_up (in9_01 (lyE_9 _ _)) (ih (by omega)))) 5
