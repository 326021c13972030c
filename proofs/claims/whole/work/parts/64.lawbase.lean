def R_law : String := "SocietyBookLaw"
def lw_P (b : Addr) (xs : List Int32) (args : Array Value) (s : State) : Prop := args = #[.ref b] ∧ s.IntsAt b xs ∧ xs.length ≤ 3584 ∧ (Jvm.Cond.and given_1 narrow_1).before args s = true
def lw_Q (_ : Array Value) (s : State) (o : Outcome) (t : State) : Prop := o = .returned (some (.int 1)) ∧ Framed s o t [] 600000 7302250
def lw_Z (below : List Frame) (a : Array Value) (s : State) : State → Prop := fun t => ∃ o, t.status = .running ∧ Ended t below o ∧ lw_Q a s o t
/-- the law's own end, with 1 on the stack, nothing written that was there before, its room as the claim has it -/
theorem lw_ret {p : Program} {l : Launch} {e : Env} {s : State} {m : MethodId} {below : List Frame} {meth : Method} {c : Code} {b : Nat} (hx : p.tables.exec = Jvm.exec) (hb : c.code = code) (hr : meth.sig.returnType = ret) (hlocks : meth.locks = false) {pc : Nat} {H : Heap} {ls : Array Slot} (hdg : decode code pc = .ok (.ireturn, 1)) : W p l e room_1 s m #[Value.ref b] below meth c H [] 600000 7302250 (lw_Z below #[Value.ref b] s) (F0 m pc ls [.int 1]) := by
  intro T hT X
  obtain ⟨fs, hret, hrun, hended, hW, hframe⟩ := X.leave (v := some (.int 1)) (hlocks := hlocks) (fun h => by rw [hr] at h; cases h)
  have hmeth' : T.vm.method? m = some meth := X.method'
  refine ⟨T.setFrames fs, ?_, .returned (some (.int 1)), hrun, hended, rfl, ⟨_, rfl⟩, hW, hframe⟩
  jvm_step X.here [X.here.top, hx, hb, hdg, hmeth', hr, ret, narrow_b1]
  (try refine ⟨rfl, ?_⟩); (try refine ⟨rfl, ?_⟩)
  first | (intro acts; rw [hret _ acts rfl rfl rfl]) | rw [hret _ _ rfl rfl rfl]
  exact Steps.refl _
/-- what holds at the law's entry: the machine, the code, the tables' words (any of lw_tbl by 'hts w (by decide +kernel)'), the script of L ints xs at the cell b, what the Statement gives of the start (any of its parts by flat_of_before) -/
def lw_At (p : Program) (s : State) (m : MethodId) (meth : Method) (c : Code) (b L : Nat) (xs : Nat → Int32) : Prop :=
  p.tables.exec = Jvm.exec ∧ c.code = code ∧ meth.sig.returnType = ret ∧ c.maxLocals = 4 ∧ s.vm.findClass R_law = some m.cls ∧ (∀ w ∈ lw_tbl, w.before #[Value.ref b] s = true) ∧ va_X b L xs s s.heap ∧ b < s.heap.size ∧ meth.locks = false ∧ (Jvm.Cond.and given_1 narrow_1).before #[Value.ref b] s = true
def aR (h : Nat) (a : Nat → Nat) : List Nat := [h, a 1, a 5, a 6, a 8, a 9, a 10, a 11, a 12, a 13, a 14, a 15, a 17, a 18, a 19, a 20, a 22, a 23, a 24, a 26, a 27, a 28, a 29, a 30, a 31, a 33, a 34, a 35, a 36, a 37, a 39, a 40, a 41, a 42, a 43, a 44, a 45, a 46, a 47, a 48]
theorem aR_w {h : Nat} {a : Nat → Nat} {cI cB cZ : ClassId} {F : Nat → Int32} {M : Nat → Nat → Int32} : (wM h a cI cB cZ F M).map Prod.fst = aR h a := rfl
def AR (h : Nat) (a : Nat → Nat) (q : Nat) : Prop := q ∈ aR h a
def AX (s : State) (h : Nat) (a : Nat → Nat) (q : Nat) : Prop := s.heap.size ≤ q ∧ ¬ AR h a q
def A0 (s : State) (q : Nat) : Prop := s.heap.size ≤ q
theorem dR {A : Nat → Prop} {h : Nat} {a : Nat → Nat} {cI cB cZ : ClassId} {F : Nat → Int32} {M : Nat → Nat → Int32} (hD : va_D A (wM h a cI cB cZ F M)) : va_D (AR h a) (wM h a cI cB cZ F M) := by
  refine ⟨hD.1, fun k q hk => ?_⟩
  unfold AR
  rw [← aR_w (cI := cI) (cB := cB) (cZ := cZ) (F := F) (M := M)]
  exact List.mem_map.mpr ⟨q, List.mem_of_getElem? hk, rfl⟩
theorem wk {D : va_G} {cl : List vw_C} {ws : va_W} {H H1 : Heap} (hP : va_P D cl ws H) (h : ∀ (k : Nat) (q : Nat × va_E), ws[k]? = some q → H1[q.1]? = H[q.1]?) : va_P D cl ws H1 := fun k q hk => (hP k q hk).kept (h k q hk)
def lS (s : State) (dC : Nat → ClassId) (dI : Nat → Nat → Nat) (cy : Nat → ClassId) (cI cB cZ : ClassId) : Prop := va_K (dC, dI) vwCl (tyC cy) s ∧ nst s ∧ va_K (dC, dI) vwCl [(cI, .int), (cB, .byte), (cZ, .boolean)] s ∧ va_AO RX4 s
def lI (s : State) (dC : Nat → ClassId) (dI : Nat → Nat → Nat) (cy : Nat → ClassId) (cI cB cZ : ClassId) (h : Nat) (a : Nat → Nat) (qx : Nat) (H : Heap) (locs : List Loc) : Prop :=
  ∃ (F : Nat → Int32) (M Y : Nat → Nat → Int32) (rl : List (Nat × Nat)) (ad : Nat × Nat → Nat), kK (F, M) ∧ ad (9, 0) = qx ∧ (∀ r, r ∈ rl ↔ vd F r) ∧ va_P (dC, dI) vwCl (rx_W rl ad (eC ad cy F M Y)) H ∧ va_D (AX s h a) (rx_W rl ad (eC ad cy F M Y)) ∧ va_P (dC, dI) vwCl (wM h a cI cB cZ F M) H ∧ va_D (AR h a) (wM h a cI cB cZ F M) ∧ va_S (A0 s) s.heap H locs ∧ ∀ q, AR h a q → s.heap.size ≤ q
theorem ar_lt {D : va_G} {cl : List vw_C} {h : Nat} {a : Nat → Nat} {cI cB cZ : ClassId} {F : Nat → Int32} {M : Nat → Nat → Int32} {H : Heap} (hP : va_P D cl (wM h a cI cB cZ F M) H) {q : Nat} (hq : AR h a q) : q < H.size := by
  unfold AR at hq
  rw [← aR_w (cI := cI) (cB := cB) (cZ := cZ) (F := F) (M := M)] at hq
  obtain ⟨x, h1, h2⟩ := List.mem_map.mp hq
  obtain ⟨k, h3⟩ := List.getElem?_of_mem h1
  have := (hP k x h3).lt
  rw [← h2]
  exact this
theorem v_meets (F : Nat → Int32) (M : Nat → Nat → Int32) (p : Int32) (r : Nat × Nat) : vd (s_X11_meets F M p).2.1 r ↔ vd F r := Iff.rfl
theorem v_need (F : Nat → Int32) (M : Nat → Nat → Int32) (p0 p1 : Int32) (r : Nat × Nat) : vd (s_X11_need F M p0 p1).2.1 r ↔ vd F r := by
  unfold s_X11_need
  repeat' split
  all_goals exact Iff.rfl
theorem v_later (F : Nat → Int32) (M : Nat → Nat → Int32) (p0 : Int32) (r : Nat × Nat) : vd (s_X11_later F M p0).2.1 r ↔ vd F r := by
  unfold s_X11_later
  repeat' split
  all_goals exact Iff.rfl
theorem v_fellow (F : Nat → Int32) (M : Nat → Nat → Int32) (r : Nat × Nat) : vd (s_X11_fellow F M ).2.1 r ↔ vd F r := by
  unfold s_X11_fellow
  repeat' split
  all_goals exact Iff.rfl
theorem v_post (F : Nat → Int32) (M : Nat → Nat → Int32) (p0 : Int32) (p1 : Int32) (p2 : Int32) (r : Nat × Nat) : vd (s_X11_post F M p0 p1 p2).2.1 r ↔ vd F r := by
  unfold s_X11_post
  repeat' split
  all_goals exact Iff.rfl
theorem v_open (F : Nat → Int32) (M : Nat → Nat → Int32) (p0 : Int32) (p1 : Int32) (p2 : Int32) (r : Nat × Nat) : vd (s_X11_open F M p0 p1 p2).2.1 r ↔ vd F r := by
  unfold s_X11_open
  repeat' split
  all_goals exact Iff.rfl
theorem v_mark (F : Nat → Int32) (M : Nat → Nat → Int32) (p0 : Int32) (p1 : Int32) (r : Nat × Nat) : vd (s_X11_mark F M p0 p1).2.1 r ↔ vd F r := by
  unfold s_X11_mark
  repeat' split
  all_goals exact Iff.rfl
theorem v_first (F : Nat → Int32) (M : Nat → Nat → Int32) (p0 : Int32) (p1 : Int32) (p2 : Int32) (r : Nat × Nat) : vd (s_X11_first F M p0 p1 p2).2.1 r ↔ vd F r := by
  unfold s_X11_first
  repeat' split
  all_goals exact Iff.rfl
theorem v_mean (F : Nat → Int32) (M : Nat → Nat → Int32) (r : Nat × Nat) : vd (s_X11_mean F M ).2.1 r ↔ vd F r := by
  unfold s_X11_mean
  repeat' split
  all_goals exact Iff.rfl
theorem v_propose (F : Nat → Int32) (M : Nat → Nat → Int32) (p0 : Int32) (p1 : Int32) (r : Nat × Nat) : vd (s_X11_propose F M p0 p1).2.1 r ↔ vd F r := by
  unfold s_X11_propose
  by_cases c0 : 0 ≤ (s_X11_need F M (if 0 ≤ p1 ∧ p1 ≤ ((F 4) - 1) then (1 : Int32) else 0) p0).1
  · rw [if_pos c0]; exact v_need _ _ _ _ r
  · rw [if_neg c0]; exact v_need _ _ _ _ r
theorem v_withdraw (F : Nat → Int32) (M : Nat → Nat → Int32) (p0 : Int32) (r : Nat × Nat) : vd (s_X11_withdraw F M p0).2.1 r ↔ vd F r := by
  unfold s_X11_withdraw
  by_cases c0 : 0 ≤ (s_X11_need F M 1 p0).1
  · rw [if_pos c0]; exact v_need _ _ _ _ r
  · rw [if_neg c0]; exact v_need _ _ _ _ r
theorem v_ballot (F : Nat → Int32) (M : Nat → Nat → Int32) (p0 : Int32) (p1 : Int32) (p2 : Int32) (r : Nat × Nat) : vd (s_X11_ballot F M p0 p1 p2).2.1 r ↔ vd F r := by
  unfold s_X11_ballot
  repeat' split
  all_goals exact Iff.rfl
theorem v_medal (F : Nat → Int32) (M : Nat → Nat → Int32) (p0 : Int32) (p1 : Int32) (p2 : Int32) (r : Nat × Nat) : vd (s_X11_medal F M p0 p1 p2).2.1 r ↔ vd F r := by
  unfold s_X11_medal
  repeat' split
  all_goals exact Iff.rfl
theorem v_award (F : Nat → Int32) (M : Nat → Nat → Int32) (p0 : Int32) (p1 : Int32) (r : Nat × Nat) : vd (s_X11_award F M p0 p1).2.1 r ↔ vd F r := by
  unfold s_X11_award
  repeat' split
  all_goals exact Iff.rfl
theorem v_stock (F : Nat → Int32) (M : Nat → Nat → Int32) (p0 : Int32) (p1 : Int32) (p2 : Int32) (r : Nat × Nat) : vd (s_X11_stock F M p0 p1 p2).2.1 r ↔ vd F r := by
  unfold s_X11_stock
  repeat' split
  all_goals exact Iff.rfl
theorem v_sheet (F : Nat → Int32) (M : Nat → Nat → Int32) (p0 : Int32) (p1 : Int32) (r : Nat × Nat) : vd (s_X11_sheet F M p0 p1).2.1 r ↔ vd F r := by
  unfold s_X11_sheet
  repeat' split
  all_goals exact Iff.rfl
theorem v_lay (F : Nat → Int32) (M : Nat → Nat → Int32) (p0 : Int32) (p1 : Int32) (p2 : Int32) (r : Nat × Nat) : vd (s_X11_lay F M p0 p1 p2).2.1 r ↔ vd F r := by
  unfold s_X11_lay
  repeat' split
  all_goals exact Iff.rfl
theorem v_tear (F : Nat → Int32) (M : Nat → Nat → Int32) (p0 : Int32) (r : Nat × Nat) : vd (s_X11_tear F M p0).2.1 r ↔ vd F r := by
  unfold s_X11_tear
  repeat' split
  all_goals exact Iff.rfl
theorem v_copy (F : Nat → Int32) (M : Nat → Nat → Int32) (p0 : Int32) (p1 : Int32) (p2 : Int32) (p3 : Int32) (p4 : Int32) (r : Nat × Nat) : vd (s_X11_copy F M p0 p1 p2 p3 p4).2.1 r ↔ vd F r := by
  unfold s_X11_copy
  repeat' split
  all_goals exact Iff.rfl
theorem v_fill (F : Nat → Int32) (M : Nat → Nat → Int32) (p0 : Int32) (p1 : Int32) (r : Nat × Nat) : vd (s_X11_fill F M p0 p1).2.1 r ↔ vd F r := by
  unfold s_X11_fill
  repeat' split
  all_goals exact Iff.rfl
theorem v_swaps (F : Nat → Int32) (M : Nat → Nat → Int32) (p0 : Int32) (r : Nat × Nat) : vd (s_X11_swaps F M p0).2.1 r ↔ vd F r := by
  unfold s_X11_swaps
  repeat' split
  all_goals exact Iff.rfl
theorem v_whole (F : Nat → Int32) (M : Nat → Nat → Int32) (r : Nat × Nat) : vd (s_X11_whole F M ).2.1 r ↔ vd F r := by
  unfold s_X11_whole
  repeat' split
  all_goals exact Iff.rfl
theorem lg_cmp_self (x : Int64) : lg_cmp x x = 0 := by
  unfold lg_cmp
  simp
