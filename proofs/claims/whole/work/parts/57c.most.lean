theorem vau_at (M : Nat → Nat → Int32) (k : Nat) (v : Nat → Int32) : va_up M k v k = v := by unfold va_up; rw [if_pos rfl]
theorem vau_ne {M : Nat → Nat → Int32} {k j : Nat} {v : Nat → Int32} (h : ¬ j = k) : va_up M k v j = M j := by unfold va_up; rw [if_neg h]
noncomputable def gG (F : Nat → Int32) (M : Nat → Nat → Int32) (p : Int32) : Nat → (Nat → Nat → Int32)
  | 0 => va_up M 46 (L_lay2 F M p 12)
  | i + 1 => (s_goes F (gG F M p i)).2.2
def gS (F : Nat → Int32) (M : Nat → Nat → Int32) (p : Int32) (n : Nat) : Prop := (∀ i, i < n → ¬ (s_goes F (gG F M p i)).1 = 0) ∧ (s_goes F (gG F M p n)).1 = 0
theorem gG_ok {F : Nat → Int32} {M : Nat → Nat → Int32} (hc : ∀ x, x < 12 → in9 (M 42 x)) (p : Int32) : ∀ n, n ≤ 9000 → (∀ i, i < n → ¬ (s_goes F (gG F M p i)).1 = 0) →
    (∀ k, k < 961 → 0 ≤ (gG F M p n 46 k).toInt ∧ (gG F M p n 46 k).toInt ≤ 9 + 31 * (n : Int)) ∧ (∀ S : Nat → Bool, S 0 = true → S 30 = false → cut S (gG F M p n 46) = cut S (L_lay2 F M p 12) - n) ∧ ∀ j, ¬ j = 46 → ¬ j = 47 → ¬ j = 48 → gG F M p n j = M j := by
  intro n
  induction n with
  | zero =>
    intro _ _
    refine ⟨fun k hk => ?_, fun S _ _ => ?_, fun j h1 _ _ => vau_ne h1⟩
    · have := lay2_9 (F := F) hc p 12 (Nat.le_refl 12) k hk
      rw [gG, vau_at]
      exact ⟨this.1, by have := this.2; omega⟩
    · rw [gG, vau_at]; omega
  | succ n ih =>
    intro hn h
    obtain ⟨h1, h2, h3⟩ := ih (by omega) (fun i hi => h i (by omega))
    have g := goes_fl (F := F) (M := gG F M p n) (B := 9 + 31 * (n : Int)) (by omega) h1
    have hne := h n (Nat.lt_succ_self n)
    obtain ⟨g1, g2, g3⟩ := g
    rcases g3 with g3 | ⟨g3, g4, g5⟩
    · exact absurd g3.1 hne
    · rw [gG]
      refine ⟨fun k hk => ?_, fun S a b => ?_, fun j a b c => ?_⟩
      · have := g4 k hk
        exact ⟨this.1, by have := this.2; omega⟩
      · rw [g5 S a b, h2 S a b]; omega
      · rw [g2 j a b c]; exact h3 j a b c
theorem csum_ge {w : Nat → Bool} {R : Nat → Int32} : ∀ n, (∀ k, k < n → 0 ≤ (R k).toInt) → 0 ≤ csum w R n := by
  intro n
  induction n with
  | zero => intro _; exact Int.le_refl 0
  | succ n ih =>
    intro h
    have h1 := ih (fun k hk => h k (by omega))
    have h2 := h n (Nat.lt_succ_self n)
    rw [csum]
    split <;> omega
theorem csum_le {w : Nat → Bool} {R : Nat → Int32} : ∀ n : Nat, (∀ k, k < n → in9 (R k)) → csum w R n ≤ 9 * (n : Int) := by
  intro n
  induction n with
  | zero => intro _; exact Int.le_refl 0
  | succ n ih =>
    intro h
    have h1 := ih (fun k hk => h k (by omega))
    have h2 := (h n (Nat.lt_succ_self n)).2
    rw [csum]
    split <;> omega
theorem gG_le {F : Nat → Int32} {M : Nat → Nat → Int32} (hc : ∀ x, x < 12 → in9 (M 42 x)) (p : Int32) {n : Nat} (hn : n ≤ 9000) (h : ∀ i, i < n → ¬ (s_goes F (gG F M p i)).1 = 0) : n ≤ 8649 := by
  obtain ⟨h1, h2, h3⟩ := gG_ok hc p n hn h
  have e := h2 (fun k => decide (k = 0)) rfl rfl
  have a : 0 ≤ cut (fun k => decide (k = 0)) (gG F M p n 46) := csum_ge 961 (fun k hk => (h1 k hk).1)
  have b : cut (fun k => decide (k = 0)) (L_lay2 F M p 12) ≤ 9 * ((961 : Nat) : Int) := csum_le 961 (lay2_9 (F := F) hc p 12 (Nat.le_refl 12))
  omega
theorem gS_ex {F : Nat → Int32} {M : Nat → Nat → Int32} (hc : ∀ x, x < 12 → in9 (M 42 x)) (p : Int32) : ∃ n, n ≤ 8649 ∧ gS F M p n := by
  rcases first_ex (fun i => (s_goes F (gG F M p i)).1 = 0) 9000 with h | ⟨N, a, b, c⟩
  · have := gG_le hc p (Nat.le_refl 9000) h
    omega
  · exact ⟨N, gG_le hc p (by omega) c, c, b⟩
noncomputable def gN (F : Nat → Int32) (M : Nat → Nat → Int32) (p : Int32) : Nat := @dite Nat (∃ n, n ≤ 8649 ∧ gS F M p n) (Classical.propDecidable _) (fun h => Classical.choose h) (fun _ => 0)
theorem gN_s {F : Nat → Int32} {M : Nat → Nat → Int32} (hc : ∀ x, x < 12 → in9 (M 42 x)) (p : Int32) : gN F M p ≤ 8649 ∧ gS F M p (gN F M p) := by
  have h := gS_ex (F := F) hc p
  unfold gN
  rw [dif_pos h]
  exact Classical.choose_spec h
theorem gN_min {F : Nat → Int32} {M : Nat → Nat → Int32} (hc : ∀ x, x < 12 → in9 (M 42 x)) (p : Int32) : (∃ S : Nat → Bool, S 0 = true ∧ S 30 = false ∧ cut S (L_lay2 F M p 12) = gN F M p) ∧ ∀ S : Nat → Bool, S 0 = true → S 30 = false → (gN F M p : Int) ≤ cut S (L_lay2 F M p 12) := by
  obtain ⟨hn, h1, h2⟩ := gN_s (F := F) hc p
  generalize gN F M p = n at hn h1 h2 ⊢
  obtain ⟨a1, a2, a3⟩ := gG_ok hc p n (by omega) h1
  have g := goes_fl (F := F) (M := gG F M p n) (B := 9 + 31 * (n : Int)) (by omega) a1
  obtain ⟨g1, g2, g3⟩ := g
  refine ⟨?_, fun S s0 s3 => ?_⟩
  · rcases g3 with ⟨_, S, s0, s3, s4⟩ | ⟨g3, _⟩
    · refine ⟨S, s0, s3, ?_⟩
      have := a2 S s0 s3
      omega
    · rw [h2] at g3; exact absurd g3 (by decide)
  · have := a2 S s0 s3
    have a : 0 ≤ cut S (gG F M p n 46) := csum_ge 961 (fun k hk => (a1 k hk).1)
    omega
noncomputable def gZ (F : Nat → Int32) (M : Nat → Nat → Int32) (p : Int32) : Nat → Nat → Int32 := (s_goes F (gG F M p (gN F M p))).2.2
noncomputable def s_X11_mostSwaps (F : Nat → Int32) (M : Nat → Nat → Int32) (p : Int32) : Int32 × ((Nat → Int32) × (Nat → Nat → Int32)) := (nI (gN F M p), (F, va_up (va_up (va_up M 46 (gZ F M p 46)) 47 (gZ F M p 47)) 48 (gZ F M p 48)))
theorem gZ_ok {F : Nat → Int32} {M : Nat → Nat → Int32} (hc : ∀ x, x < 12 → in9 (M 42 x)) (p : Int32) : (s_goes F (gG F M p (gN F M p))).2 = (s_X11_mostSwaps F M p).2 := by
  obtain ⟨hn, h1, h2⟩ := gN_s (F := F) hc p
  obtain ⟨a1, a2, a3⟩ := gG_ok hc p _ (by omega) h1
  have g := goes_fl (F := F) (M := gG F M p (gN F M p)) (B := 9 + 31 * ((gN F M p : Nat) : Int)) (by omega) a1
  unfold s_X11_mostSwaps
  show _ = (F, _)
  refine Prod.ext g.1 ?_
  show (s_goes F (gG F M p (gN F M p))).2.2 = va_up (va_up (va_up M 46 (gZ F M p 46)) 47 (gZ F M p 47)) 48 (gZ F M p 48)
  funext j
  by_cases c3 : j = 48
  · subst c3; rw [vau_at]; rfl
  · rw [vau_ne c3]
    by_cases c2 : j = 47
    · subst c2; rw [vau_at]; rfl
    · rw [vau_ne c2]
      by_cases c1 : j = 46
      · subst c1; rw [vau_at]; rfl
      · rw [vau_ne c1, g.2.1 j c1 c2 c3, a3 j c1 c2 c3]
theorem gG_F {F : Nat → Int32} {M : Nat → Nat → Int32} (hc : ∀ x, x < 12 → in9 (M 42 x)) (p : Int32) {i : Nat} (hi : i < gN F M p) : (s_goes F (gG F M p i)).2.1 = F := by
  obtain ⟨hn, h1, h2⟩ := gN_s (F := F) hc p
  obtain ⟨a1, a2, a3⟩ := gG_ok hc p i (by omega) (fun j hj => h1 j (by omega))
  exact (goes_fl (F := F) (M := gG F M p i) (B := 9 + 31 * (i : Int)) (by omega) a1).1
/- the cheapest cut by its partners -/
def cB (c : Nat → Int32) (p : Int32) (x : Nat) (T : Nat → Bool) : Nat → Int
  | 0 => 0
  | q + 1 => cB c p x T q + wI (T q) (lyB c p x q)
def cA (c : Nat → Int32) (p : Int32) (x : Nat) (T : Nat → Bool) : Nat → Int
  | 0 => 0
  | q + 1 => cA c p x T q + wI (!T q) (lyA c p x q)
def fT (c : Nat → Int32) (p : Int32) (T : Nat → Bool) : Nat → Int
  | 0 => 0
  | x + 1 => fT c p T x + min (lyE c x).toInt (cA c p x T 5) + min (lyD c x).toInt (cB c p x T 5)
theorem asum_e {S : Nat → Bool} {c : Nat → Int32} {p : Int32} {x : Nat} (hx : x < 12) : ∀ n, n ≤ 5 → asum (cutw S) c p x n = (if S (1 + x) then cA c p x (fun q => S (13 + q)) n else 0) + (if S (18 + x) then 0 else cB c p x (fun q => S (13 + q)) n) := by
  intro n
  induction n with
  | zero => intro _; unfold asum cA cB; split <;> split <;> rfl
  | succ n ih =>
    intro hn
    rw [asum, cA, cB, ih (by omega)]
    have e1 : cutw S (31 * (1 + x) + 12 + (n + 1)) = (S (1 + x) && !S (13 + n)) := by
      unfold cutw; rw [show (31 * (1 + x) + 12 + (n + 1)) / 31 = 1 + x by omega, show (31 * (1 + x) + 12 + (n + 1)) % 31 = 13 + n by omega]
    have e2 : cutw S (31 * (12 + (n + 1)) + 18 + x) = (S (13 + n) && !S (18 + x)) := by
      unfold cutw; rw [show (31 * (12 + (n + 1)) + 18 + x) / 31 = 13 + n by omega, show (31 * (12 + (n + 1)) + 18 + x) % 31 = 18 + x by omega]
    rw [e1, e2]
    cases S (1 + x) <;> cases S (18 + x) <;> cases S (13 + n) <;> simp [wI] <;> omega
theorem bsum_s {S : Nat → Bool} {c : Nat → Int32} {p : Int32} (s0 : S 0 = true) (s3 : S 30 = false) {x : Nat} (hx : x < 12) : bsum (cutw S) c p (x + 1) = bsum (cutw S) c p x + (if S (1 + x) then cA c p x (fun q => S (13 + q)) 5 else (lyE c x).toInt) + (if S (18 + x) then (lyD c x).toInt else cB c p x (fun q => S (13 + q)) 5) := by
  rw [bsum, asum_e hx 5 (Nat.le_refl 5)]
  have e1 : cutw S (1 + x) = !S (1 + x) := by
    unfold cutw; rw [show (1 + x) / 31 = 0 by omega, show (1 + x) % 31 = 1 + x by omega, s0]; rfl
  have e2 : cutw S (31 * (18 + x) + 30) = S (18 + x) := by
    unfold cutw; rw [show (31 * (18 + x) + 30) / 31 = 18 + x by omega, show (31 * (18 + x) + 30) % 31 = 30 by omega, s3]; cases S (18 + x) <;> rfl
  rw [e1, e2]
  cases S (1 + x) <;> cases S (18 + x) <;> simp [wI] <;> omega
theorem fT_lo {S : Nat → Bool} {c : Nat → Int32} {p : Int32} (s0 : S 0 = true) (s3 : S 30 = false) : ∀ x, x ≤ 12 → fT c p (fun q => S (13 + q)) x ≤ bsum (cutw S) c p x := by
  intro x
  induction x with
  | zero => intro _; exact Int.le_refl 0
  | succ x ih =>
    intro hx
    have := ih (by omega)
    rw [fT, bsum_s s0 s3 (by omega)]
    split <;> split <;> omega
def Sof (c : Nat → Int32) (p : Int32) (T : Nat → Bool) (k : Nat) : Bool := if k = 0 then true else if k ≤ 12 then decide (cA c p (k - 1) T 5 ≤ (lyE c (k - 1)).toInt) else if k ≤ 17 then T (k - 13) else if k ≤ 29 then decide ((lyD c (k - 18)).toInt ≤ cB c p (k - 18) T 5) else false
theorem cA_T {c : Nat → Int32} {p : Int32} {x : Nat} {T T' : Nat → Bool} : ∀ n, (∀ q, q < n → T q = T' q) → cA c p x T n = cA c p x T' n := by
  intro n
  induction n with
  | zero => intro _; rfl
  | succ n ih => intro h; rw [cA, cA, ih (fun q hq => h q (by omega)), h n (Nat.lt_succ_self n)]
theorem cB_T {c : Nat → Int32} {p : Int32} {x : Nat} {T T' : Nat → Bool} : ∀ n, (∀ q, q < n → T q = T' q) → cB c p x T n = cB c p x T' n := by
  intro n
  induction n with
  | zero => intro _; rfl
  | succ n ih => intro h; rw [cB, cB, ih (fun q hq => h q (by omega)), h n (Nat.lt_succ_self n)]
theorem fT_hi (c : Nat → Int32) (p : Int32) (T : Nat → Bool) : ∀ x, x ≤ 12 → bsum (cutw (Sof c p T)) c p x = fT c p T x := by
  intro x
  induction x with
  | zero => intro _; rfl
  | succ x ih =>
    intro hx
    rw [fT, bsum_s (by rfl) (by rfl) (by omega), ih (by omega)]
    have hT : ∀ q, q < 5 → (fun q => Sof c p T (13 + q)) q = T q := by
      intro q hq
      show Sof c p T (13 + q) = T q
      unfold Sof
      rw [if_neg (by omega), if_neg (by omega), if_pos (by omega), show 13 + q - 13 = q by omega]
    rw [cA_T 5 hT, cB_T 5 hT]
    have e1 : Sof c p T (1 + x) = decide (cA c p x T 5 ≤ (lyE c x).toInt) := by
      unfold Sof
      rw [if_neg (by omega), if_pos (by omega), show 1 + x - 1 = x by omega]
    have e2 : Sof c p T (18 + x) = decide ((lyD c x).toInt ≤ cB c p x T 5) := by
      unfold Sof
      rw [if_neg (by omega), if_neg (by omega), if_neg (by omega), if_pos (by omega), show 18 + x - 18 = x by omega]
    rw [e1, e2]
    simp only [decide_eq_true_eq]
    split <;> split <;> omega
theorem ms_val {F : Nat → Int32} {M : Nat → Nat → Int32} (hc : ∀ x, x < 12 → in9 (M 42 x)) (p : Int32) : (∃ T : Nat → Bool, fT (M 42) p T 12 ≤ gN F M p) ∧ ∀ T : Nat → Bool, (gN F M p : Int) ≤ fT (M 42) p T 12 := by
  obtain ⟨⟨S, s0, s3, s4⟩, h2⟩ := gN_min (F := F) hc p
  have ec : ∀ S : Nat → Bool, cut S (L_lay2 F M p 12) = bsum (cutw S) (M 42) p 12 := fun S => lay2_c (cutw S) F M p 12 (Nat.le_refl 12)
  refine ⟨⟨fun q => S (13 + q), ?_⟩, fun T => ?_⟩
  · have := fT_lo (c := M 42) (p := p) s0 s3 12 (Nat.le_refl 12)
    rw [← ec, s4] at this
    exact this
  · have := h2 (Sof (M 42) p T) rfl rfl
    rw [ec, fT_hi (M 42) p T 12 (Nat.le_refl 12)] at this
    exact this
