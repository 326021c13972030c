
def rx_W (rl : List (Nat × Nat)) (ad : Nat × Nat → Nat) (en : Nat × Nat → va_E) : va_W := rl.map (fun r => (ad r, en r))
def ru_ (en : Nat × Nat → va_E) (r : Nat × Nat) (e : va_E) : Nat × Nat → va_E := fun x => if x = r then e else en x
def au_ (ad : Nat × Nat → Nat) (r : Nat × Nat) (q : Nat) : Nat × Nat → Nat := fun x => if x = r then q else ad x
abbrev rf_ (f : Nat → Option Nat) : ((Nat → Int32) ⊕ (Nat → Int64) ⊕ (Nat → UInt32) ⊕ (Nat → UInt64) ⊕ (Nat → Option Nat)) := .inr (.inr (.inr (.inr f)))
theorem ru_s {en : Nat × Nat → va_E} {r : Nat × Nat} {e : va_E} : ru_ en r e r = e := if_pos rfl
theorem ru_n {en : Nat × Nat → va_E} {r x : Nat × Nat} {e : va_E} (h : ¬ x = r) : ru_ en r e x = en x := if_neg h
theorem au_s {ad : Nat × Nat → Nat} {r : Nat × Nat} {q : Nat} : au_ ad r q r = q := if_pos rfl
theorem au_n {ad : Nat × Nat → Nat} {r x : Nat × Nat} {q : Nat} (h : ¬ x = r) : au_ ad r q x = ad x := if_neg h
theorem rx_get {rl : List (Nat × Nat)} {ad : Nat × Nat → Nat} {en : Nat × Nat → va_E} {r : Nat × Nat} (h : r ∈ rl) : ∃ k : Nat, (rx_W rl ad en)[k]? = some (ad r, en r) :=
  List.getElem?_of_mem (List.mem_map.mpr ⟨r, h, rfl⟩)
theorem rx_at {rl : List (Nat × Nat)} {ad : Nat × Nat → Nat} {en : Nat × Nat → va_E} {k : Nat} : (rx_W rl ad en)[k]? = (rl[k]?).map (fun r => (ad r, en r)) := by
  unfold rx_W
  exact List.getElem?_map
theorem rx_in {rl : List (Nat × Nat)} {ad : Nat × Nat → Nat} {en : Nat × Nat → va_E} {D : va_G} {cl : List vw_C} {H : Heap} (hP : va_P D cl (rx_W rl ad en) H) {r : Nat × Nat} (h : r ∈ rl) : va_at D cl (ad r, en r) H := by
  obtain ⟨k, hk⟩ := rx_get (ad := ad) (en := en) h
  exact hP k _ hk
theorem rx_inj {rl : List (Nat × Nat)} {ad : Nat × Nat → Nat} {en : Nat × Nat → va_E} {A : Nat → Prop} (hD : va_D A (rx_W rl ad en)) {r x : Nat × Nat} (hr : r ∈ rl) (hx : x ∈ rl) (h : ad r = ad x) : r = x := by
  obtain ⟨i, hi⟩ := List.getElem?_of_mem hr
  obtain ⟨j, hj⟩ := List.getElem?_of_mem hx
  have h1 : (rx_W rl ad en)[i]? = some (ad r, en r) := by rw [rx_at, hi]; rfl
  have h2 : (rx_W rl ad en)[j]? = some (ad x, en x) := by rw [rx_at, hj]; rfl
  have := hD.1 i j _ _ h1 h2 h
  subst this
  rw [hi] at hj
  exact Option.some.inj hj
theorem rx_set {A : Nat → Prop} {rl : List (Nat × Nat)} {ad : Nat × Nat → Nat} {en : Nat × Nat → va_E} {r : Nat × Nat} {k : Nat} {e : va_E} (hD : va_D A (rx_W rl ad en)) (hr : r ∈ rl) (hk : (rx_W rl ad en)[k]? = some (ad r, en r)) : (rx_W rl ad en).set k (ad r, e) = rx_W rl ad (ru_ en r e) := by
  have hl := (List.getElem?_eq_some_iff.mp hk).1
  obtain ⟨i, hi⟩ := List.getElem?_of_mem hr
  have h1 : (rx_W rl ad en)[i]? = some (ad r, en r) := by rw [rx_at, hi]; rfl
  have hik : i = k := hD.1 i k _ _ h1 hk rfl
  subst hik
  apply List.ext_getElem?
  intro j
  by_cases hj : j = i
  · subst hj
    rw [List.getElem?_set_self hl, rx_at, hi]
    show some (ad r, e) = some (ad r, ru_ en r e r)
    rw [ru_s]
  · rw [List.getElem?_set_ne (Ne.symm hj), rx_at, rx_at]
    cases hb : rl[j]? with
    | none => rfl
    | some b =>
      have hba : ¬ b = r := by
        intro hab
        subst hab
        have h2 : (rx_W rl ad en)[j]? = some (ad b, en b) := by rw [rx_at, hb]; rfl
        exact hj (hD.1 j i _ _ h2 hk rfl)
      show some (ad b, en b) = some (ad b, ru_ en r e b)
      rw [ru_n hba]
theorem rx_cong {rl : List (Nat × Nat)} {ad : Nat × Nat → Nat} {en en2 : Nat × Nat → va_E} (h : ∀ r, r ∈ rl → en r = en2 r) : rx_W rl ad en = rx_W rl ad en2 := by
  unfold rx_W
  apply List.map_congr_left
  intro r hr
  rw [h r hr]
theorem rx_push {rl : List (Nat × Nat)} {ad : Nat × Nat → Nat} {en : Nat × Nat → va_E} {r : Nat × Nat} {q : Nat} {e : va_E} (h : r ∉ rl) : rx_W rl ad en ++ [(q, e)] = rx_W (rl ++ [r]) (au_ ad r q) (ru_ en r e) := by
  unfold rx_W
  rw [List.map_append]
  congr 1
  · apply List.map_congr_left
    intro b hb
    have : ¬ b = r := fun z => h (z ▸ hb)
    rw [au_n this, ru_n this]
  · show [(q, e)] = [(au_ ad r q r, ru_ en r e r)]
    rw [au_s, ru_s]
theorem rx_D {A : Nat → Prop} {rl : List (Nat × Nat)} {ad : Nat × Nat → Nat} {en en2 : Nat × Nat → va_E} (hD : va_D A (rx_W rl ad en)) : va_D A (rx_W rl ad en2) := by
  have key : ∀ (k : Nat) (q : Nat × va_E), (rx_W rl ad en2)[k]? = some q → ∃ q0, (rx_W rl ad en)[k]? = some q0 ∧ q0.1 = q.1 := by
    intro k q hk
    rw [rx_at] at hk ⊢
    cases hb : rl[k]? with
    | none => rw [hb] at hk; cases hk
    | some b => rw [hb] at hk; cases hk; exact ⟨_, rfl, rfl⟩
  refine ⟨fun i j x y hi hj hxy => ?_, fun k q hk => ?_⟩
  · obtain ⟨x0, h1, h2⟩ := key i x hi
    obtain ⟨y0, h3, h4⟩ := key j y hj
    exact hD.1 i j x0 y0 h1 h3 (h2.trans (hxy.trans h4.symm))
  · obtain ⟨q0, h1, h2⟩ := key k q hk
    rw [← h2]
    exact hD.2 k q0 h1
theorem run_of {p : Program} {l : Launch} {e : Env} {R : Room} {s : State} {m : MethodId} {args : Array Value} {below : List Frame} {meth : Method} {c : Code} {H : Heap} {locs : List Loc} {cells slots mc ms : Nat} {g : JFrame} {rest : List Value} {Qa : State → Outcome → State → Prop} {free : Addr → Prop} (h : va_Run p l e R s m args below meth c H locs cells slots mc ms g rest Qa free) : CallRun p l e R s m args below meth c H locs cells slots mc ms g rest Qa free := by
  intro T hT X
  obtain ⟨v, st₀, t, T', L, h0, X', hL, e1, e2, hq, st⟩ := h T hT X
  exact ⟨v, st₀, t, T', L, h0, X', hL, e1, hq, st⟩
/-- the last note of a paper and an event among the first n: its number -/
def lt_N (A B : Nat → Int32) (p w : Int32) : Nat → Option Nat
  | 0 => none
  | n + 1 => if A n = p ∧ B n = w then some n else lt_N A B p w n
/-- how often a medal went to a fellow among the first n awards -/
def ct_A (A B : Nat → Int32) (m f : Nat) : Nat → Int32
  | 0 => 0
  | n + 1 => if A n = nI m ∧ B n = nI f then ct_A A B m f n + 1 else ct_A A B m f n
/-- the day on which it last did -/
def ls_A (A B C : Nat → Int32) (m f : Nat) : Nat → Int32
  | 0 => 0
  | n + 1 => if A n = nI m ∧ B n = nI f then C n else ls_A A B C m f n
def eC (ad : Nat × Nat → Nat) (cy : Nat → ClassId) (F : Nat → Int32) (M Y : Nat → Nat → Int32) : Nat × Nat → va_E := fun r =>
  if r.1 = 0 then .inr (0, [.int (M 26 r.2), .int (M 27 r.2), .int (M 28 r.2), .int (M 29 r.2), .int (M 30 r.2), .int (M 31 r.2)]) else
  if r.1 = 1 then .inr (1, [.int (M 34 r.2), .int (M 33 r.2), .int (M 35 r.2)]) else
  if r.1 = 2 then .inr (2, [.ref (ad (19, 0)), .ref (ad (20, 0)), .ref (ad (21, 0))]) else
  if r.1 = 3 then .inr (3, [.int (M 36 r.2), .int (M 37 r.2), .ref (ad (22, r.2)), .ref (ad (23, r.2))]) else
  if r.1 = 4 then .inr (4, [.int (M 19 r.2), .int (M 20 r.2), va_rf ((lt_N (M 17) (M 18) (M 17 r.2) (M 18 r.2) r.2).map (fun j => ad (4, j)))]) else
  if r.1 = 5 then .inr (5, [.int (M 8 r.2), .int (M 9 r.2), .int (M 10 r.2), .int (M 11 r.2), .int (M 12 r.2), .int (if M 8 r.2 = 2 then M 13 r.2 else -9), .int (if M 8 r.2 = 2 then M 14 r.2 else -9), .int (M 15 r.2), .ref (ad (15, r.2))]) else
  if r.1 = 6 then .inr (6, [.int (M 5 r.2), .int (M 6 r.2)]) else
  if r.1 = 7 then .inr (7, [.int (if M 43 r.2 < 0 then 1 else 0), .int (if M 43 r.2 < 0 then Y 2 r.2 else M 43 r.2), .ref (ad (24, r.2))]) else
  if r.1 = 8 then .inr (8, [.int (M 22 r.2), .int (M 23 r.2), .int (M 24 r.2)]) else
  if r.1 = 9 then .inr (9, [.int (F 3), .int (F 4), .ref (ad (10, 0)), .ref (ad (11, 0)), .int (F 7), .int (F 16), .ref (ad (12, 0)), .int (F 21), .ref (ad (13, 0)), .int (F 25), .ref (ad (14, 0)), .int (F 32), .ref (ad (16, 0)), .int (F 38), .ref (ad (2, 0)), .ref (ad (17, 0)), .int (F 2), .int (F 0), .ref (ad (18, 0))]) else
  if r.1 = 10 then .inl (cy 2, 6, rf_ (fun i => some (ad (6, i)))) else
  if r.1 = 11 then .inl (cy 3, 24, rf_ (fun i => if i < (F 7).toNatClampNeg then some (ad (5, i)) else none)) else
  if r.1 = 12 then .inl (cy 4, 12, rf_ (fun i => if i < (F 21).toNatClampNeg then some (ad (8, i)) else none)) else
  if r.1 = 13 then .inl (cy 5, 12, rf_ (fun i => if i < (F 25).toNatClampNeg then some (ad (0, i)) else none)) else
  if r.1 = 14 then .inl (cy 6, 20, rf_ (fun i => if i < (F 32).toNatClampNeg then some (ad (1, i)) else none)) else
  if r.1 = 15 then .inl (cy 7, 3, rf_ (fun w => if w < 3 then (lt_N (M 17) (M 18) (nI r.2) (nI w) (F 16).toNatClampNeg).map (fun j => ad (4, j)) else none)) else
  if r.1 = 16 then .inl (cy 8, 4, rf_ (fun i => some (ad (3, i)))) else
  if r.1 = 17 then .inl (cy 9, 4, rf_ (fun i => some (ad (7, i)))) else
  if r.1 = 18 then .inl (cy 0, 6, .inl (M 1)) else
  if r.1 = 19 then .inl (cy 10, 6, rf_ (fun i => some (ad (25, i)))) else
  if r.1 = 20 then .inl (cy 0, 63, .inl (Y 0)) else
  if r.1 = 21 then .inl (cy 0, 63, .inl (Y 1)) else
  if r.1 = 22 then .inl (cy 0, 16, .inl (fun f => if f < 16 then ct_A (M 39) (M 40) r.2 f (F 38).toNatClampNeg else 0)) else
  if r.1 = 23 then .inl (cy 0, 16, .inl (fun f => if f < 16 then ls_A (M 39) (M 40) (M 41) r.2 f (F 38).toNatClampNeg else 0)) else
  if r.1 = 24 then .inl (cy 1, 12, .inl (fun i => if i < 12 then M 44 (12 * r.2 + i) else 0)) else
  if r.1 = 25 then .inl (cy 0, 12, .inl (fun i => if i < 12 then M 42 (12 * r.2 + i) else 0)) else
  .inr (0, [])
def vd (F : Nat → Int32) (r : Nat × Nat) : Prop := (r.1 = 0 ∧ r.2 < (F 25).toNatClampNeg) ∨ (r.1 = 1 ∧ r.2 < (F 32).toNatClampNeg) ∨ (r.1 = 2 ∧ r.2 < 1) ∨ (r.1 = 3 ∧ r.2 < 4) ∨ (r.1 = 4 ∧ r.2 < (F 16).toNatClampNeg) ∨ (r.1 = 5 ∧ r.2 < (F 7).toNatClampNeg) ∨ (r.1 = 6 ∧ r.2 < 6) ∨ (r.1 = 7 ∧ r.2 < 4) ∨ (r.1 = 8 ∧ r.2 < (F 21).toNatClampNeg) ∨ (r.1 = 9 ∧ r.2 < 1) ∨ (r.1 = 10 ∧ r.2 < 1) ∨ (r.1 = 11 ∧ r.2 < 1) ∨ (r.1 = 12 ∧ r.2 < 1) ∨ (r.1 = 13 ∧ r.2 < 1) ∨ (r.1 = 14 ∧ r.2 < 1) ∨ (r.1 = 15 ∧ r.2 < (F 7).toNatClampNeg) ∨ (r.1 = 16 ∧ r.2 < 1) ∨ (r.1 = 17 ∧ r.2 < 1) ∨ (r.1 = 18 ∧ r.2 < 1) ∨ (r.1 = 19 ∧ r.2 < 1) ∨ (r.1 = 20 ∧ r.2 < 1) ∨ (r.1 = 21 ∧ r.2 < 1) ∨ (r.1 = 22 ∧ r.2 < 4) ∨ (r.1 = 23 ∧ r.2 < 4) ∨ (r.1 = 24 ∧ r.2 < 4) ∨ (r.1 = 25 ∧ r.2 < 6)
theorem vd_0 {F : Nat → Int32} {i : Nat} (h : i < (F 25).toNatClampNeg) : vd F (0, i) := Or.inl ⟨rfl, h⟩
theorem vd_1 {F : Nat → Int32} {i : Nat} (h : i < (F 32).toNatClampNeg) : vd F (1, i) := Or.inr (Or.inl ⟨rfl, h⟩)
theorem vd_2 {F : Nat → Int32} {i : Nat} (h : i < 1) : vd F (2, i) := Or.inr (Or.inr (Or.inl ⟨rfl, h⟩))
theorem vd_3 {F : Nat → Int32} {i : Nat} (h : i < 4) : vd F (3, i) := Or.inr (Or.inr (Or.inr (Or.inl ⟨rfl, h⟩)))
theorem vd_4 {F : Nat → Int32} {i : Nat} (h : i < (F 16).toNatClampNeg) : vd F (4, i) := Or.inr (Or.inr (Or.inr (Or.inr (Or.inl ⟨rfl, h⟩))))
theorem vd_5 {F : Nat → Int32} {i : Nat} (h : i < (F 7).toNatClampNeg) : vd F (5, i) := Or.inr (Or.inr (Or.inr (Or.inr (Or.inr (Or.inl ⟨rfl, h⟩)))))
theorem vd_6 {F : Nat → Int32} {i : Nat} (h : i < 6) : vd F (6, i) := Or.inr (Or.inr (Or.inr (Or.inr (Or.inr (Or.inr (Or.inl ⟨rfl, h⟩))))))
theorem vd_7 {F : Nat → Int32} {i : Nat} (h : i < 4) : vd F (7, i) := Or.inr (Or.inr (Or.inr (Or.inr (Or.inr (Or.inr (Or.inr (Or.inl ⟨rfl, h⟩)))))))
theorem vd_8 {F : Nat → Int32} {i : Nat} (h : i < (F 21).toNatClampNeg) : vd F (8, i) := Or.inr (Or.inr (Or.inr (Or.inr (Or.inr (Or.inr (Or.inr (Or.inr (Or.inl ⟨rfl, h⟩))))))))
theorem vd_9 {F : Nat → Int32} {i : Nat} (h : i < 1) : vd F (9, i) := Or.inr (Or.inr (Or.inr (Or.inr (Or.inr (Or.inr (Or.inr (Or.inr (Or.inr (Or.inl ⟨rfl, h⟩)))))))))
theorem vd_10 {F : Nat → Int32} {i : Nat} (h : i < 1) : vd F (10, i) := Or.inr (Or.inr (Or.inr (Or.inr (Or.inr (Or.inr (Or.inr (Or.inr (Or.inr (Or.inr (Or.inl ⟨rfl, h⟩))))))))))
theorem vd_11 {F : Nat → Int32} {i : Nat} (h : i < 1) : vd F (11, i) := Or.inr (Or.inr (Or.inr (Or.inr (Or.inr (Or.inr (Or.inr (Or.inr (Or.inr (Or.inr (Or.inr (Or.inl ⟨rfl, h⟩)))))))))))
theorem vd_12 {F : Nat → Int32} {i : Nat} (h : i < 1) : vd F (12, i) := Or.inr (Or.inr (Or.inr (Or.inr (Or.inr (Or.inr (Or.inr (Or.inr (Or.inr (Or.inr (Or.inr (Or.inr (Or.inl ⟨rfl, h⟩))))))))))))
theorem vd_13 {F : Nat → Int32} {i : Nat} (h : i < 1) : vd F (13, i) := Or.inr (Or.inr (Or.inr (Or.inr (Or.inr (Or.inr (Or.inr (Or.inr (Or.inr (Or.inr (Or.inr (Or.inr (Or.inr (Or.inl ⟨rfl, h⟩)))))))))))))
theorem vd_14 {F : Nat → Int32} {i : Nat} (h : i < 1) : vd F (14, i) := Or.inr (Or.inr (Or.inr (Or.inr (Or.inr (Or.inr (Or.inr (Or.inr (Or.inr (Or.inr (Or.inr (Or.inr (Or.inr (Or.inr (Or.inl ⟨rfl, h⟩))))))))))))))
theorem vd_15 {F : Nat → Int32} {i : Nat} (h : i < (F 7).toNatClampNeg) : vd F (15, i) := Or.inr (Or.inr (Or.inr (Or.inr (Or.inr (Or.inr (Or.inr (Or.inr (Or.inr (Or.inr (Or.inr (Or.inr (Or.inr (Or.inr (Or.inr (Or.inl ⟨rfl, h⟩)))))))))))))))
theorem vd_16 {F : Nat → Int32} {i : Nat} (h : i < 1) : vd F (16, i) := Or.inr (Or.inr (Or.inr (Or.inr (Or.inr (Or.inr (Or.inr (Or.inr (Or.inr (Or.inr (Or.inr (Or.inr (Or.inr (Or.inr (Or.inr (Or.inr (Or.inl ⟨rfl, h⟩))))))))))))))))
theorem vd_17 {F : Nat → Int32} {i : Nat} (h : i < 1) : vd F (17, i) := Or.inr (Or.inr (Or.inr (Or.inr (Or.inr (Or.inr (Or.inr (Or.inr (Or.inr (Or.inr (Or.inr (Or.inr (Or.inr (Or.inr (Or.inr (Or.inr (Or.inr (Or.inl ⟨rfl, h⟩)))))))))))))))))
theorem vd_18 {F : Nat → Int32} {i : Nat} (h : i < 1) : vd F (18, i) := Or.inr (Or.inr (Or.inr (Or.inr (Or.inr (Or.inr (Or.inr (Or.inr (Or.inr (Or.inr (Or.inr (Or.inr (Or.inr (Or.inr (Or.inr (Or.inr (Or.inr (Or.inr (Or.inl ⟨rfl, h⟩))))))))))))))))))
theorem vd_19 {F : Nat → Int32} {i : Nat} (h : i < 1) : vd F (19, i) := Or.inr (Or.inr (Or.inr (Or.inr (Or.inr (Or.inr (Or.inr (Or.inr (Or.inr (Or.inr (Or.inr (Or.inr (Or.inr (Or.inr (Or.inr (Or.inr (Or.inr (Or.inr (Or.inr (Or.inl ⟨rfl, h⟩)))))))))))))))))))
theorem vd_20 {F : Nat → Int32} {i : Nat} (h : i < 1) : vd F (20, i) := Or.inr (Or.inr (Or.inr (Or.inr (Or.inr (Or.inr (Or.inr (Or.inr (Or.inr (Or.inr (Or.inr (Or.inr (Or.inr (Or.inr (Or.inr (Or.inr (Or.inr (Or.inr (Or.inr (Or.inr (Or.inl ⟨rfl, h⟩))))))))))))))))))))
theorem vd_21 {F : Nat → Int32} {i : Nat} (h : i < 1) : vd F (21, i) := Or.inr (Or.inr (Or.inr (Or.inr (Or.inr (Or.inr (Or.inr (Or.inr (Or.inr (Or.inr (Or.inr (Or.inr (Or.inr (Or.inr (Or.inr (Or.inr (Or.inr (Or.inr (Or.inr (Or.inr (Or.inr (Or.inl ⟨rfl, h⟩)))))))))))))))))))))
theorem vd_22 {F : Nat → Int32} {i : Nat} (h : i < 4) : vd F (22, i) := Or.inr (Or.inr (Or.inr (Or.inr (Or.inr (Or.inr (Or.inr (Or.inr (Or.inr (Or.inr (Or.inr (Or.inr (Or.inr (Or.inr (Or.inr (Or.inr (Or.inr (Or.inr (Or.inr (Or.inr (Or.inr (Or.inr (Or.inl ⟨rfl, h⟩))))))))))))))))))))))
theorem vd_23 {F : Nat → Int32} {i : Nat} (h : i < 4) : vd F (23, i) := Or.inr (Or.inr (Or.inr (Or.inr (Or.inr (Or.inr (Or.inr (Or.inr (Or.inr (Or.inr (Or.inr (Or.inr (Or.inr (Or.inr (Or.inr (Or.inr (Or.inr (Or.inr (Or.inr (Or.inr (Or.inr (Or.inr (Or.inr (Or.inl ⟨rfl, h⟩)))))))))))))))))))))))
theorem vd_24 {F : Nat → Int32} {i : Nat} (h : i < 4) : vd F (24, i) := Or.inr (Or.inr (Or.inr (Or.inr (Or.inr (Or.inr (Or.inr (Or.inr (Or.inr (Or.inr (Or.inr (Or.inr (Or.inr (Or.inr (Or.inr (Or.inr (Or.inr (Or.inr (Or.inr (Or.inr (Or.inr (Or.inr (Or.inr (Or.inr (Or.inl ⟨rfl, h⟩))))))))))))))))))))))))
theorem vd_25 {F : Nat → Int32} {i : Nat} (h : i < 6) : vd F (25, i) := Or.inr (Or.inr (Or.inr (Or.inr (Or.inr (Or.inr (Or.inr (Or.inr (Or.inr (Or.inr (Or.inr (Or.inr (Or.inr (Or.inr (Or.inr (Or.inr (Or.inr (Or.inr (Or.inr (Or.inr (Or.inr (Or.inr (Or.inr (Or.inr (Or.inr (⟨rfl, h⟩)))))))))))))))))))))))))
def tyC (cy : Nat → ClassId) : List (ClassId × FieldType) := [(cy 0, .int), (cy 1, .byte), (cy 2, .object "SocietyBook$Post"), (cy 3, .object "SocietyBook$Paper"), (cy 4, .object "SocietyBook$Statute"), (cy 5, .object "SocietyBook$Byelaw"), (cy 6, .object "SocietyBook$Candidate"), (cy 7, .object "SocietyBook$Note"), (cy 8, .object "SocietyBook$Medal"), (cy 9, .object "SocietyBook$Sheet"), (cy 10, .array .int)]
def nst (U : State) : Prop := va_Nw (.methodLinkNest RX2 56 yX10_isWithin "SocietyBook") U ∧ va_Nw (.methodLinkNest RX5 58 yX10_isWithin "SocietyBook") U ∧ va_Nw (.methodLinkNest RX8 23 yX10_isWithin "SocietyBook") U ∧ va_Nw (.methodLinkNest RX8 27 yX10_mixed "SocietyBook") U
theorem nst_w {s U : State} (hW : s.WarmedH U.vm) (h : nst s) : nst U := ⟨va_Nw.warmM hW h.1, va_Nw.warmM hW h.2.1, va_Nw.warmM hW h.2.2.1, va_Nw.warmM hW h.2.2.2⟩
theorem nst_b {U : State} {g : JFrame} {mk : MethodId} {a : Array Value} (h : nst U) : nst (U.calling g mk a) := ⟨va_Nw.same rfl (u := U) rfl h.1, va_Nw.same rfl (u := U) rfl h.2.1, va_Nw.same rfl (u := U) rfl h.2.2.1, va_Nw.same rfl (u := U) rfl h.2.2.2⟩
def pC (dC : Nat → ClassId) (dI : Nat → Nat → Nat) (rl : List (Nat × Nat)) (ad : Nat × Nat → Nat) (cy : Nat → ClassId) (en : Nat × Nat → va_E) : State → Prop := fun U => va_P (dC, dI) vwCl (rx_W rl ad en) U.heap ∧ va_K (dC, dI) vwCl (tyC cy) U ∧ nst U
theorem pc_blind {av : List Value} {dC : Nat → ClassId} {dI : Nat → Nat → Nat} {rl : List (Nat × Nat)} {ad : Nat × Nat → Nat} {cy : Nat → ClassId} {en : Nat × Nat → va_E} : FrameBlind (va_Pc av (pC dC dI rl ad cy en)) := fun a U g mk q => ⟨q.1, q.2.1, va_K.moved (u := U) (U := U.calling g mk a) (Vm.Alike.refl U.vm) q.2.2.1, nst_b q.2.2.2⟩
theorem en_0 {ad : Nat × Nat → Nat} {cy : Nat → ClassId} {F : Nat → Int32} {M Y : Nat → Nat → Int32} {j : Nat} : eC ad cy F M Y (0, j) = .inr (0, [.int (M 26 j), .int (M 27 j), .int (M 28 j), .int (M 29 j), .int (M 30 j), .int (M 31 j)]) := rfl
theorem en_1 {ad : Nat × Nat → Nat} {cy : Nat → ClassId} {F : Nat → Int32} {M Y : Nat → Nat → Int32} {j : Nat} : eC ad cy F M Y (1, j) = .inr (1, [.int (M 34 j), .int (M 33 j), .int (M 35 j)]) := rfl
theorem en_2 {ad : Nat × Nat → Nat} {cy : Nat → ClassId} {F : Nat → Int32} {M Y : Nat → Nat → Int32} {j : Nat} : eC ad cy F M Y (2, j) = .inr (2, [.ref (ad (19, 0)), .ref (ad (20, 0)), .ref (ad (21, 0))]) := rfl
theorem en_3 {ad : Nat × Nat → Nat} {cy : Nat → ClassId} {F : Nat → Int32} {M Y : Nat → Nat → Int32} {j : Nat} : eC ad cy F M Y (3, j) = .inr (3, [.int (M 36 j), .int (M 37 j), .ref (ad (22, j)), .ref (ad (23, j))]) := rfl
theorem en_4 {ad : Nat × Nat → Nat} {cy : Nat → ClassId} {F : Nat → Int32} {M Y : Nat → Nat → Int32} {j : Nat} : eC ad cy F M Y (4, j) = .inr (4, [.int (M 19 j), .int (M 20 j), va_rf ((lt_N (M 17) (M 18) (M 17 j) (M 18 j) j).map (fun j => ad (4, j)))]) := rfl
theorem en_5 {ad : Nat × Nat → Nat} {cy : Nat → ClassId} {F : Nat → Int32} {M Y : Nat → Nat → Int32} {j : Nat} : eC ad cy F M Y (5, j) = .inr (5, [.int (M 8 j), .int (M 9 j), .int (M 10 j), .int (M 11 j), .int (M 12 j), .int (if M 8 j = 2 then M 13 j else -9), .int (if M 8 j = 2 then M 14 j else -9), .int (M 15 j), .ref (ad (15, j))]) := rfl
theorem en_6 {ad : Nat × Nat → Nat} {cy : Nat → ClassId} {F : Nat → Int32} {M Y : Nat → Nat → Int32} {j : Nat} : eC ad cy F M Y (6, j) = .inr (6, [.int (M 5 j), .int (M 6 j)]) := rfl
theorem en_7 {ad : Nat × Nat → Nat} {cy : Nat → ClassId} {F : Nat → Int32} {M Y : Nat → Nat → Int32} {j : Nat} : eC ad cy F M Y (7, j) = .inr (7, [.int (if M 43 j < 0 then 1 else 0), .int (if M 43 j < 0 then Y 2 j else M 43 j), .ref (ad (24, j))]) := rfl
theorem en_8 {ad : Nat × Nat → Nat} {cy : Nat → ClassId} {F : Nat → Int32} {M Y : Nat → Nat → Int32} {j : Nat} : eC ad cy F M Y (8, j) = .inr (8, [.int (M 22 j), .int (M 23 j), .int (M 24 j)]) := rfl
theorem en_9 {ad : Nat × Nat → Nat} {cy : Nat → ClassId} {F : Nat → Int32} {M Y : Nat → Nat → Int32} {j : Nat} : eC ad cy F M Y (9, j) = .inr (9, [.int (F 3), .int (F 4), .ref (ad (10, 0)), .ref (ad (11, 0)), .int (F 7), .int (F 16), .ref (ad (12, 0)), .int (F 21), .ref (ad (13, 0)), .int (F 25), .ref (ad (14, 0)), .int (F 32), .ref (ad (16, 0)), .int (F 38), .ref (ad (2, 0)), .ref (ad (17, 0)), .int (F 2), .int (F 0), .ref (ad (18, 0))]) := rfl
theorem en_10 {ad : Nat × Nat → Nat} {cy : Nat → ClassId} {F : Nat → Int32} {M Y : Nat → Nat → Int32} {j : Nat} : eC ad cy F M Y (10, j) = .inl (cy 2, 6, rf_ (fun i => some (ad (6, i)))) := rfl
theorem en_11 {ad : Nat × Nat → Nat} {cy : Nat → ClassId} {F : Nat → Int32} {M Y : Nat → Nat → Int32} {j : Nat} : eC ad cy F M Y (11, j) = .inl (cy 3, 24, rf_ (fun i => if i < (F 7).toNatClampNeg then some (ad (5, i)) else none)) := rfl
theorem en_12 {ad : Nat × Nat → Nat} {cy : Nat → ClassId} {F : Nat → Int32} {M Y : Nat → Nat → Int32} {j : Nat} : eC ad cy F M Y (12, j) = .inl (cy 4, 12, rf_ (fun i => if i < (F 21).toNatClampNeg then some (ad (8, i)) else none)) := rfl
theorem en_13 {ad : Nat × Nat → Nat} {cy : Nat → ClassId} {F : Nat → Int32} {M Y : Nat → Nat → Int32} {j : Nat} : eC ad cy F M Y (13, j) = .inl (cy 5, 12, rf_ (fun i => if i < (F 25).toNatClampNeg then some (ad (0, i)) else none)) := rfl
theorem en_14 {ad : Nat × Nat → Nat} {cy : Nat → ClassId} {F : Nat → Int32} {M Y : Nat → Nat → Int32} {j : Nat} : eC ad cy F M Y (14, j) = .inl (cy 6, 20, rf_ (fun i => if i < (F 32).toNatClampNeg then some (ad (1, i)) else none)) := rfl
theorem en_15 {ad : Nat × Nat → Nat} {cy : Nat → ClassId} {F : Nat → Int32} {M Y : Nat → Nat → Int32} {j : Nat} : eC ad cy F M Y (15, j) = .inl (cy 7, 3, rf_ (fun w => if w < 3 then (lt_N (M 17) (M 18) (nI j) (nI w) (F 16).toNatClampNeg).map (fun j => ad (4, j)) else none)) := rfl
theorem en_16 {ad : Nat × Nat → Nat} {cy : Nat → ClassId} {F : Nat → Int32} {M Y : Nat → Nat → Int32} {j : Nat} : eC ad cy F M Y (16, j) = .inl (cy 8, 4, rf_ (fun i => some (ad (3, i)))) := rfl
theorem en_17 {ad : Nat × Nat → Nat} {cy : Nat → ClassId} {F : Nat → Int32} {M Y : Nat → Nat → Int32} {j : Nat} : eC ad cy F M Y (17, j) = .inl (cy 9, 4, rf_ (fun i => some (ad (7, i)))) := rfl
theorem en_18 {ad : Nat × Nat → Nat} {cy : Nat → ClassId} {F : Nat → Int32} {M Y : Nat → Nat → Int32} {j : Nat} : eC ad cy F M Y (18, j) = .inl (cy 0, 6, .inl (M 1)) := rfl
theorem en_19 {ad : Nat × Nat → Nat} {cy : Nat → ClassId} {F : Nat → Int32} {M Y : Nat → Nat → Int32} {j : Nat} : eC ad cy F M Y (19, j) = .inl (cy 10, 6, rf_ (fun i => some (ad (25, i)))) := rfl
theorem en_20 {ad : Nat × Nat → Nat} {cy : Nat → ClassId} {F : Nat → Int32} {M Y : Nat → Nat → Int32} {j : Nat} : eC ad cy F M Y (20, j) = .inl (cy 0, 63, .inl (Y 0)) := rfl
theorem en_21 {ad : Nat × Nat → Nat} {cy : Nat → ClassId} {F : Nat → Int32} {M Y : Nat → Nat → Int32} {j : Nat} : eC ad cy F M Y (21, j) = .inl (cy 0, 63, .inl (Y 1)) := rfl
theorem en_22 {ad : Nat × Nat → Nat} {cy : Nat → ClassId} {F : Nat → Int32} {M Y : Nat → Nat → Int32} {j : Nat} : eC ad cy F M Y (22, j) = .inl (cy 0, 16, .inl (fun f => if f < 16 then ct_A (M 39) (M 40) j f (F 38).toNatClampNeg else 0)) := rfl
theorem en_23 {ad : Nat × Nat → Nat} {cy : Nat → ClassId} {F : Nat → Int32} {M Y : Nat → Nat → Int32} {j : Nat} : eC ad cy F M Y (23, j) = .inl (cy 0, 16, .inl (fun f => if f < 16 then ls_A (M 39) (M 40) (M 41) j f (F 38).toNatClampNeg else 0)) := rfl
theorem en_24 {ad : Nat × Nat → Nat} {cy : Nat → ClassId} {F : Nat → Int32} {M Y : Nat → Nat → Int32} {j : Nat} : eC ad cy F M Y (24, j) = .inl (cy 1, 12, .inl (fun i => if i < 12 then M 44 (12 * j + i) else 0)) := rfl
theorem en_25 {ad : Nat × Nat → Nat} {cy : Nat → ClassId} {F : Nat → Int32} {M Y : Nat → Nat → Int32} {j : Nat} : eC ad cy F M Y (25, j) = .inl (cy 0, 12, .inl (fun i => if i < 12 then M 42 (12 * j + i) else 0)) := rfl
section RG
variable {p : Program} {l : Launch} {e : Env} {R : Room} {s : State} {m : MethodId} {args : Array Value} {below : List Frame} {meth : Method} {c : Code} {H : Heap} {locs : List Loc} {cells slots : Nat} {Q : State → Prop} {cc : ByteArray} {pc : Nat} {ls : Array Slot} {rest : List Value} {D : va_G} {cl : List vw_C} {A : Nat → Prop} {tys : List (ClassId × FieldType)} {H0 : Heap} {rl : List (Nat × Nat)} {ad : Nat × Nat → Nat} {en : Nat × Nat → va_E} {r : Nat × Nat}
theorem rg_get (hexec : p.tables.exec = Jvm.exec) (hb : c.code = cc) {own ref C : String} {T : u_T} {N ci index : Nat} {Ts : List Cond} (hts : ∀ w ∈ Ts, w.before args s = true) (hin : ∀ w ∈ u_ws C T N, w ∈ Ts) (hown : s.vm.findClass own = some m.cls) (hK : va_K D cl tys s) (hP : va_P D cl (rx_W rl ad en) H) (hr : r ∈ rl) {fs : List Value} (he : en r = .inr (ci, fs)) (hc : cl[ci]? = some (C, T, N)) (k : Nat) (hk : k < N) (hlink : (Cond.fieldLink own index ref (T k).2.1 (T k).2.2.1).before args s = true) (hsame : ∀ x, s.fieldFound? (T k).1 (T k).2.1 (T k).2.2.1 = some x → s.fieldFound? ref (T k).2.1 (T k).2.2.1 = some x) {v : Value} (hv : fs[k]? = some v) (hdg : decode cc pc = .ok (.getfield index, 3))
    (kk : W p l e R s m args below meth c H locs cells slots Q (F0 m (pc + 3) ls (v :: rest))) : W p l e R s m args below meth c H locs cells slots Q (F0 m pc ls (.ref (ad r) :: rest)) := by
  obtain ⟨q0, hq⟩ := rx_get (ad := ad) (en := en) hr
  rw [he] at hq
  exact va_get hexec hb hts hin hown hK hP q0 hq hc k hk hlink hsame hv hdg kk
theorem rg_put (hexec : p.tables.exec = Jvm.exec) (hb : c.code = cc) {own ref C : String} {T : u_T} {N ci index : Nat} {Ts : List Cond} (hts : ∀ w ∈ Ts, w.before args s = true) (hin : ∀ w ∈ u_ws C T N, w ∈ Ts) (ty0 : Nat → FieldType) (hty : ∀ k, k < N → parseFieldDescriptor (T k).2.2.1 = some (ty0 k)) (hnm : ∀ a, a < N → ∀ b, b < N → a ≠ b → (T a).2.1 ≠ (T b).2.1) (hown : s.vm.findClass own = some m.cls) (hK : va_K D cl tys s) (hP : va_P D cl (rx_W rl ad en) H) (hD : va_D A (rx_W rl ad en)) (hS0 : va_S A H0 H locs) (hr : r ∈ rl) {fs : List Value} (he : en r = .inr (ci, fs)) (hc : cl[ci]? = some (C, T, N)) (k : Nat) (hk : k < N) (hlink : (Cond.fieldLink own index ref (T k).2.1 (T k).2.2.1).before args s = true) (hsame : ∀ x, s.fieldFound? (T k).1 (T k).2.1 (T k).2.2.1 = some x → s.fieldFound? ref (T k).2.1 (T k).2.2.1 = some x) (hfin : (T k).2.2.2 = false) {ty : FieldType} {v : Value} (hd : parseFieldDescriptor (T k).2.2.1 = some ty) (hn : narrow ty v = v) (hfit : fits ty v = true) (hl : k < fs.length)
    (hdg : decode cc pc = .ok (.putfield index, 3)) (kk : ∀ (H1 : Heap) (locs1 : List Loc), va_P D cl (rx_W rl ad (ru_ en r (.inr (ci, fs.set k v)))) H1 → va_D A (rx_W rl ad (ru_ en r (.inr (ci, fs.set k v)))) → va_S A H0 H1 locs1 → W p l e R s m args below meth c H1 locs1 cells slots Q (F0 m (pc + 3) ls rest)) : W p l e R s m args below meth c H locs cells slots Q (F0 m pc ls (v :: .ref (ad r) :: rest)) := by
  obtain ⟨q0, hq⟩ := rx_get (ad := ad) (en := en) hr
  have hq' := hq
  rw [he] at hq'
  refine va_put hexec hb hts hin ty0 hty hnm hown hK hP hD hS0 q0 hq' hc k hk hlink hsame hfin hd hn hfit hl hdg (fun H1 locs1 hP1 hD1 hS1 => ?_)
  rw [rx_set hD hr hq] at hP1 hD1
  exact kk H1 locs1 hP1 hD1 hS1
theorem rg_putF (hexec : p.tables.exec = Jvm.exec) (hb : c.code = cc) {own ref C : String} {T : u_T} {N ci index : Nat} {Ts : List Cond} (hts : ∀ w ∈ Ts, w.before args s = true) (hin : ∀ w ∈ u_ws C T N, w ∈ Ts) (ty0 : Nat → FieldType) (hty : ∀ k, k < N → parseFieldDescriptor (T k).2.2.1 = some (ty0 k)) (hnm : ∀ a, a < N → ∀ b, b < N → a ≠ b → (T a).2.1 ≠ (T b).2.1) (hown : s.vm.findClass own = some m.cls) (hK : va_K D cl tys s) (hP : va_P D cl (rx_W rl ad en) H) (hD : va_D A (rx_W rl ad en)) (hS0 : va_S A H0 H locs) (hr : r ∈ rl) {fs : List Value} (he : en r = .inr (ci, fs)) (hc : cl[ci]? = some (C, T, N)) (k : Nat) (hk : k < N) (hlink : (Cond.fieldLink own index ref (T k).2.1 (T k).2.2.1).before args s = true) (hsame : ∀ x, s.fieldFound? (T k).1 (T k).2.1 (T k).2.2.1 = some x → s.fieldFound? ref (T k).2.1 (T k).2.2.1 = some x) (hfin : (T k).2.2.2 = true) (hin2 : meth.name = "<init>") (hdecl : (T k).1 = own) {ty : FieldType} {v : Value} (hd : parseFieldDescriptor (T k).2.2.1 = some ty) (hn : narrow ty v = v) (hfit : fits ty v = true) (hl : k < fs.length)
    (hdg : decode cc pc = .ok (.putfield index, 3)) (kk : ∀ (H1 : Heap) (locs1 : List Loc), va_P D cl (rx_W rl ad (ru_ en r (.inr (ci, fs.set k v)))) H1 → va_D A (rx_W rl ad (ru_ en r (.inr (ci, fs.set k v)))) → va_S A H0 H1 locs1 → W p l e R s m args below meth c H1 locs1 cells slots Q (F0 m (pc + 3) ls rest)) : W p l e R s m args below meth c H locs cells slots Q (F0 m pc ls (v :: .ref (ad r) :: rest)) := by
  obtain ⟨q0, hq⟩ := rx_get (ad := ad) (en := en) hr
  have hq' := hq
  rw [he] at hq'
  refine va_putF hexec hb hts hin ty0 hty hnm hown hK hP hD hS0 q0 hq' hc k hk hlink hsame hfin hin2 hdecl hd hn hfit hl hdg (fun H1 locs1 hP1 hD1 hS1 => ?_)
  rw [rx_set hD hr hq] at hP1 hD1
  exact kk H1 locs1 hP1 hD1 hS1
theorem rg_iald (hexec : p.tables.exec = Jvm.exec) (hb : c.code = cc) (hK : va_K D cl tys s) (hP : va_P D cl (rx_W rl ad en) H) (hr : r ∈ rl) (t0 : Nat) {cA : ClassId} {n : Nat} {f : Nat → Int32} (he : en r = .inl (cA, n, .inl f)) (ht : tys[t0]? = some (cA, .int)) {i : Int32} (hin : vp_in i n) {v : Int32} (hv : f i.toNatClampNeg = v) (hdg : decode cc pc = .ok (.iaload, 1))
    (kk : W p l e R s m args below meth c H locs cells slots Q (F0 m (pc + 1) ls (.int v :: rest))) : W p l e R s m args below meth c H locs cells slots Q (F0 m pc ls (.int i :: .ref (ad r) :: rest)) := by
  obtain ⟨q0, hq⟩ := rx_get (ad := ad) (en := en) hr
  rw [he] at hq
  subst hv
  exact va_iald hexec hb hK hP q0 t0 hq ht hin hdg kk
theorem rg_iast (hexec : p.tables.exec = Jvm.exec) (hb : c.code = cc) (hK : va_K D cl tys s) (hP : va_P D cl (rx_W rl ad en) H) (hD : va_D A (rx_W rl ad en)) (hS : va_S A H0 H locs) (hr : r ∈ rl) (t0 : Nat) {cA : ClassId} {n : Nat} {f : Nat → Int32} (he : en r = .inl (cA, n, .inl f)) (ht : tys[t0]? = some (cA, .int)) {i x : Int32} (hin : vp_in i n) (hdg : decode cc pc = .ok (.iastore, 1))
    (kk : ∀ (H1 : Heap) (locs1 : List Loc), va_P D cl (rx_W rl ad (ru_ en r (.inl (cA, n, .inl (upd f i.toNatClampNeg x))))) H1 → va_D A (rx_W rl ad (ru_ en r (.inl (cA, n, .inl (upd f i.toNatClampNeg x))))) → va_S A H0 H1 locs1 → W p l e R s m args below meth c H1 locs1 cells slots Q (F0 m (pc + 1) ls rest)) : W p l e R s m args below meth c H locs cells slots Q (F0 m pc ls (.int x :: .int i :: .ref (ad r) :: rest)) := by
  obtain ⟨q0, hq⟩ := rx_get (ad := ad) (en := en) hr
  have hq' := hq
  rw [he] at hq'
  refine va_iast hexec hb hK hP hD hS q0 t0 hq' ht hin hdg (fun H1 locs1 hP1 hD1 hS1 => ?_)
  rw [rx_set hD hr hq] at hP1 hD1
  exact kk H1 locs1 hP1 hD1 hS1
theorem rg_bald (hexec : p.tables.exec = Jvm.exec) (hb : c.code = cc) (hK : va_K D cl tys s) (hP : va_P D cl (rx_W rl ad en) H) (hr : r ∈ rl) (t0 : Nat) {cA : ClassId} {n : Nat} {f : Nat → Int32} (he : en r = .inl (cA, n, .inl f)) (ht : tys[t0]? = some (cA, .byte)) {i : Int32} (hin : vp_in i n) {v : Int32} (hv : f i.toNatClampNeg = v) (hdg : decode cc pc = .ok (.baload, 1))
    (kk : W p l e R s m args below meth c H locs cells slots Q (F0 m (pc + 1) ls (.int v :: rest))) : W p l e R s m args below meth c H locs cells slots Q (F0 m pc ls (.int i :: .ref (ad r) :: rest)) := by
  obtain ⟨q0, hq⟩ := rx_get (ad := ad) (en := en) hr
  rw [he] at hq
  subst hv
  exact va_bald hexec hb hK hP q0 t0 hq ht hin hdg kk
theorem rg_bast (hexec : p.tables.exec = Jvm.exec) (hb : c.code = cc) (hK : va_K D cl tys s) (hP : va_P D cl (rx_W rl ad en) H) (hD : va_D A (rx_W rl ad en)) (hS : va_S A H0 H locs) (hr : r ∈ rl) (t0 : Nat) {cA : ClassId} {n : Nat} {f : Nat → Int32} (he : en r = .inl (cA, n, .inl f)) (ht : tys[t0]? = some (cA, .byte)) {i x : Int32} (hin : vp_in i n) (hdg : decode cc pc = .ok (.bastore, 1))
    (kk : ∀ (H1 : Heap) (locs1 : List Loc), va_P D cl (rx_W rl ad (ru_ en r (.inl (cA, n, .inl (upd f i.toNatClampNeg (vp_nar .byte x)))))) H1 → va_D A (rx_W rl ad (ru_ en r (.inl (cA, n, .inl (upd f i.toNatClampNeg (vp_nar .byte x)))))) → va_S A H0 H1 locs1 → W p l e R s m args below meth c H1 locs1 cells slots Q (F0 m (pc + 1) ls rest)) : W p l e R s m args below meth c H locs cells slots Q (F0 m pc ls (.int x :: .int i :: .ref (ad r) :: rest)) := by
  obtain ⟨q0, hq⟩ := rx_get (ad := ad) (en := en) hr
  have hq' := hq
  rw [he] at hq'
  refine va_bast hexec hb hK hP hD hS q0 t0 hq' ht hin hdg (fun H1 locs1 hP1 hD1 hS1 => ?_)
  rw [rx_set hD hr hq] at hP1 hD1
  exact kk H1 locs1 hP1 hD1 hS1
theorem rg_aldq (hexec : p.tables.exec = Jvm.exec) (hb : c.code = cc) (hK : va_K D cl tys s) (hP : va_P D cl (rx_W rl ad en) H) (hr : r ∈ rl) (t0 : Nat) {cA : ClassId} {C : String} {n : Nat} {f : Nat → Option Nat} (he : en r = .inl (cA, n, rf_ f)) (ht : tys[t0]? = some (cA, .object C)) {i : Int32} (hin : vp_in i n) {v : Value} (hv : va_rf (f i.toNatClampNeg) = v) (hdg : decode cc pc = .ok (.aaload, 1))
    (kk : W p l e R s m args below meth c H locs cells slots Q (F0 m (pc + 1) ls (v :: rest))) : W p l e R s m args below meth c H locs cells slots Q (F0 m pc ls (.int i :: .ref (ad r) :: rest)) := by
  obtain ⟨q0, hq⟩ := rx_get (ad := ad) (en := en) hr
  rw [he] at hq
  subst hv
  exact va_aldq hexec hb hK hP q0 t0 hq ht hin hdg kk
theorem rg_ald2 (hexec : p.tables.exec = Jvm.exec) (hb : c.code = cc) (hK : va_K D cl tys s) (hP : va_P D cl (rx_W rl ad en) H) (hr : r ∈ rl) (t0 : Nat) {cA : ClassId} {n : Nat} {f : Nat → Option Nat} (he : en r = .inl (cA, n, rf_ f)) (ht : tys[t0]? = some (cA, .array .int)) {i : Int32} (hin : vp_in i n) {v : Value} (hv : va_rf (f i.toNatClampNeg) = v) (hdg : decode cc pc = .ok (.aaload, 1))
    (kk : W p l e R s m args below meth c H locs cells slots Q (F0 m (pc + 1) ls (v :: rest))) : W p l e R s m args below meth c H locs cells slots Q (F0 m pc ls (.int i :: .ref (ad r) :: rest)) := by
  obtain ⟨q0, hq⟩ := rx_get (ad := ad) (en := en) hr
  rw [he] at hq
  subst hv
  have hlt : i.toNatClampNeg < n := Nat.not_le.mp fun q => hin (Or.inr q)
  exact W.aald (v := va_rf (f i.toNatClampNeg)) (ty := .array .int) hexec hb (hP q0 _ hq) ((hK.2 t0 _ ht).1 n (fun j => va_rf (f j))) rfl (fun q => by cases q) (by show ¬ (i < 0 ∨ (arrV _ _ _).slots.size ≤ _); rw [arrV_size]; exact hin) (by show (arrV _ _ _).slots[_]? = _; rw [arrV_read _ _ hlt]) rfl rfl hdg kk
theorem rg_astq (hexec : p.tables.exec = Jvm.exec) (hb : c.code = cc) (hK : va_K D cl tys s) (hP : va_P D cl (rx_W rl ad en) H) (hD : va_D A (rx_W rl ad en)) (hS : va_S A H0 H locs) (hr : r ∈ rl) (t0 ci : Nat) {x : Nat × Nat} (hx : x ∈ rl) {cA : ClassId} {rc : vw_C} {n : Nat} {vs : List Value} {f : Nat → Option Nat} (he : en r = .inl (cA, n, rf_ f)) (ht : tys[t0]? = some (cA, .object rc.1)) (hv : en x = .inr (ci, vs)) (hc : cl[ci]? = some rc) {i : Int32} (hin : vp_in i n) (hdg : decode cc pc = .ok (.aastore, 1))
    (kk : ∀ (H1 : Heap) (locs1 : List Loc), va_P D cl (rx_W rl ad (ru_ en r (.inl (cA, n, rf_ (va_up f i.toNatClampNeg (some (ad x))))))) H1 → va_D A (rx_W rl ad (ru_ en r (.inl (cA, n, rf_ (va_up f i.toNatClampNeg (some (ad x))))))) → va_S A H0 H1 locs1 → W p l e R s m args below meth c H1 locs1 cells slots Q (F0 m (pc + 1) ls rest)) : W p l e R s m args below meth c H locs cells slots Q (F0 m pc ls (.ref (ad x) :: .int i :: .ref (ad r) :: rest)) := by
  obtain ⟨q0, hq⟩ := rx_get (ad := ad) (en := en) hr
  obtain ⟨q1, hq1⟩ := rx_get (ad := ad) (en := en) hx
  have hq' := hq
  rw [he] at hq'
  rw [hv] at hq1
  refine va_astq hexec hb hK hP hD hS q0 t0 q1 ci hq' ht hq1 hc hin hdg (fun H1 locs1 hP1 hD1 hS1 => ?_)
  rw [rx_set hD hr hq] at hP1 hD1
  exact kk H1 locs1 hP1 hD1 hS1
theorem rg_recv {q : vw_C} {ci : Nat} {fs : List Value} (hK : va_K D cl tys s) (hP : va_P D cl (rx_W rl ad en) H) (hr : r ∈ rl) (hc : cl[ci]? = some q) (he : en r = .inr (ci, fs)) : ∃ cell : Cell, H[ad r]? = some cell ∧ cell.vm.isStatics = false ∧ s.vm.findClass q.1 = some cell.cls := by
  obtain ⟨q0, hq⟩ := rx_get (ad := ad) (en := en) hr
  rw [he] at hq
  exact va_recv hK hP hc hq
end RG
theorem lp_forR {p : Program} {l : Launch} {e : Env} {R : Room} {s : State} {m : MethodId} {args : Array Value} {below : List Frame} {meth : Method} {c : Code} {H : Heap} {locs : List Loc} {cells slots : Nat} {Q : State → Prop} {pc nL N : Nat} {lv : Nat → List (Nat × Value)} {D : va_G} {cl : List vw_C} {A : Nat → Prop} {H0 : Heap} {wd : Nat → va_W} {ls : Array Slot} (hP : va_P D cl (wd 0) H) (hD : va_D A (wd 0)) (hS : va_S A H0 H locs) (h0 : lv_has ls nL (lv 0))
    (step : ∀ i, i < N → ∀ (ls : Array Slot) (H : Heap) (locs : List Loc), lv_has ls nL (lv i) → va_P D cl (wd i) H → va_D A (wd i) → va_S A H0 H locs → (∀ (ls' : Array Slot) (H : Heap) (locs : List Loc), lv_has ls' nL (lv (i + 1)) → va_P D cl (wd (i + 1)) H → va_D A (wd (i + 1)) → va_S A H0 H locs → W p l e R s m args below meth c H locs cells slots Q (F0 m pc ls' [])) → W p l e R s m args below meth c H locs cells slots Q (F0 m pc ls []))
    (exit : ∀ (ls : Array Slot) (H : Heap) (locs : List Loc), lv_has ls nL (lv N) → va_P D cl (wd N) H → va_D A (wd N) → va_S A H0 H locs → W p l e R s m args below meth c H locs cells slots Q (F0 m pc ls [])) : W p l e R s m args below meth c H locs cells slots Q (F0 m pc ls []) := lp_forH hP hD hS h0 step exit

