def s_J6_bitCount_0f7a4 (p0 : Int32) : Int32 :=
  (((((((p0 - (((p0.toUInt32 >>> ((1 : Int32).toUInt32 &&& Int32.toUInt32 31)).toInt32) &&& (1431655765))) &&& (858993459)) + ((((p0 - (((p0.toUInt32 >>> ((1 : Int32).toUInt32 &&& Int32.toUInt32 31)).toInt32) &&& (1431655765))).toUInt32 >>> ((2 : Int32).toUInt32 &&& Int32.toUInt32 31)).toInt32) &&& (858993459))) + (((((p0 - (((p0.toUInt32 >>> ((1 : Int32).toUInt32 &&& Int32.toUInt32 31)).toInt32) &&& (1431655765))) &&& (858993459)) + ((((p0 - (((p0.toUInt32 >>> ((1 : Int32).toUInt32 &&& Int32.toUInt32 31)).toInt32) &&& (1431655765))).toUInt32 >>> ((2 : Int32).toUInt32 &&& Int32.toUInt32 31)).toInt32) &&& (858993459))).toUInt32 >>> ((4 : Int32).toUInt32 &&& Int32.toUInt32 31)).toInt32)) &&& (252645135)) + (((((((p0 - (((p0.toUInt32 >>> ((1 : Int32).toUInt32 &&& Int32.toUInt32 31)).toInt32) &&& (1431655765))) &&& (858993459)) + ((((p0 - (((p0.toUInt32 >>> ((1 : Int32).toUInt32 &&& Int32.toUInt32 31)).toInt32) &&& (1431655765))).toUInt32 >>> ((2 : Int32).toUInt32 &&& Int32.toUInt32 31)).toInt32) &&& (858993459))) + (((((p0 - (((p0.toUInt32 >>> ((1 : Int32).toUInt32 &&& Int32.toUInt32 31)).toInt32) &&& (1431655765))) &&& (858993459)) + ((((p0 - (((p0.toUInt32 >>> ((1 : Int32).toUInt32 &&& Int32.toUInt32 31)).toInt32) &&& (1431655765))).toUInt32 >>> ((2 : Int32).toUInt32 &&& Int32.toUInt32 31)).toInt32) &&& (858993459))).toUInt32 >>> ((4 : Int32).toUInt32 &&& Int32.toUInt32 31)).toInt32)) &&& (252645135)).toUInt32 >>> ((8 : Int32).toUInt32 &&& Int32.toUInt32 31)).toInt32)) + ((((((((p0 - (((p0.toUInt32 >>> ((1 : Int32).toUInt32 &&& Int32.toUInt32 31)).toInt32) &&& (1431655765))) &&& (858993459)) + ((((p0 - (((p0.toUInt32 >>> ((1 : Int32).toUInt32 &&& Int32.toUInt32 31)).toInt32) &&& (1431655765))).toUInt32 >>> ((2 : Int32).toUInt32 &&& Int32.toUInt32 31)).toInt32) &&& (858993459))) + (((((p0 - (((p0.toUInt32 >>> ((1 : Int32).toUInt32 &&& Int32.toUInt32 31)).toInt32) &&& (1431655765))) &&& (858993459)) + ((((p0 - (((p0.toUInt32 >>> ((1 : Int32).toUInt32 &&& Int32.toUInt32 31)).toInt32) &&& (1431655765))).toUInt32 >>> ((2 : Int32).toUInt32 &&& Int32.toUInt32 31)).toInt32) &&& (858993459))).toUInt32 >>> ((4 : Int32).toUInt32 &&& Int32.toUInt32 31)).toInt32)) &&& (252645135)) + (((((((p0 - (((p0.toUInt32 >>> ((1 : Int32).toUInt32 &&& Int32.toUInt32 31)).toInt32) &&& (1431655765))) &&& (858993459)) + ((((p0 - (((p0.toUInt32 >>> ((1 : Int32).toUInt32 &&& Int32.toUInt32 31)).toInt32) &&& (1431655765))).toUInt32 >>> ((2 : Int32).toUInt32 &&& Int32.toUInt32 31)).toInt32) &&& (858993459))) + (((((p0 - (((p0.toUInt32 >>> ((1 : Int32).toUInt32 &&& Int32.toUInt32 31)).toInt32) &&& (1431655765))) &&& (858993459)) + ((((p0 - (((p0.toUInt32 >>> ((1 : Int32).toUInt32 &&& Int32.toUInt32 31)).toInt32) &&& (1431655765))).toUInt32 >>> ((2 : Int32).toUInt32 &&& Int32.toUInt32 31)).toInt32) &&& (858993459))).toUInt32 >>> ((4 : Int32).toUInt32 &&& Int32.toUInt32 31)).toInt32)) &&& (252645135)).toUInt32 >>> ((8 : Int32).toUInt32 &&& Int32.toUInt32 31)).toInt32)).toUInt32 >>> ((16 : Int32).toUInt32 &&& Int32.toUInt32 31)).toInt32)) &&& 63
set_option maxHeartbeats 4000000 in
set_option maxRecDepth 100000 in
theorem c_J6_bitCount_0f7a4 (l : Launch) (p0 : Int32) : Met l yJ6_bitCount_0f7a4 wsJ6_bitCount_0f7a4 ({ frames := 0, cells := 0, slots := 0, locals := 0 } : Room) (va_Pc [.int p0] (fun _ => True)) (vp_Si (fun r => r = s_J6_bitCount_0f7a4 p0)) 0 0 (fun _ => False) := by
  refine Met.ofW (cc := cJ6_bitCount_0f7a4) (maxL := 1) (ret := (some .int)) (by decide) rfl ?_
  intro p e s m args below meth c s₁ B hml hv
  obtain ⟨rfl, -⟩ := hv
  have hx := B.exec
  have hb := B.bytes
  have hr := B.returns
  have hts := atoms_spec (ws := wsJ6_bitCount_0f7a4) B.pre
  have hown : s.vm.findClass RJ6 = some m.cls := findClass_of_methodNamed B.named
  have hlocks := B.notSynchronized
  have hl := lv_entry ([.int p0]) (n := 1) (Nat.le_of_ble_eq_true rfl)
  rw [lg_entry_eq]
  generalize (lg_sl ([.int p0]) ++ List.replicate (1 - (lg_sl ([.int p0])).length) Slot.unset).toArray = ls at hl ⊢
  have hl : lv_has ls 1 [(0, .int p0)] := hl
  refine lv_iload_n hx hb dJ6_bitCount_0f7a4_0 rfl (lv_at hl 0 rfl) ?_
  refine lv_iload_n hx hb dJ6_bitCount_0f7a4_1 rfl (lv_at hl 0 rfl) ?_
  refine lv_iconst (v := 1) hx hb dJ6_bitCount_0f7a4_2 (by decide) ?_
  refine lv_iushr hx hb dJ6_bitCount_0f7a4_3 (v := (p0.toUInt32 >>> ((1 : Int32).toUInt32 &&& Int32.toUInt32 31)).toInt32) rfl ?_
  refine lv_ldcw (v := (1431655765)) hx hb hown (hts (.constant RJ6 265 (1431655765)) (by decide +kernel)) dJ6_bitCount_0f7a4_4 ?_
  refine lv_iand hx hb dJ6_bitCount_0f7a4_7 ?_
  refine lv_isub hx hb dJ6_bitCount_0f7a4_8 ?_
  refine lv_istore_n (lv' := [(0, .int (p0 - (((p0.toUInt32 >>> ((1 : Int32).toUInt32 &&& Int32.toUInt32 31)).toInt32) &&& (1431655765))))]) hx hb dJ6_bitCount_0f7a4_9 rfl hl (by decide) rfl (fun ls hl => ?_)
  refine lv_iload_n hx hb dJ6_bitCount_0f7a4_10 rfl (lv_at hl 0 rfl) ?_
  refine lv_ldcw (v := (858993459)) hx hb hown (hts (.constant RJ6 266 (858993459)) (by decide +kernel)) dJ6_bitCount_0f7a4_11 ?_
  refine lv_iand hx hb dJ6_bitCount_0f7a4_14 ?_
  refine lv_iload_n hx hb dJ6_bitCount_0f7a4_15 rfl (lv_at hl 0 rfl) ?_
  refine lv_iconst (v := 2) hx hb dJ6_bitCount_0f7a4_16 (by decide) ?_
  refine lv_iushr hx hb dJ6_bitCount_0f7a4_17 (v := ((p0 - (((p0.toUInt32 >>> ((1 : Int32).toUInt32 &&& Int32.toUInt32 31)).toInt32) &&& (1431655765))).toUInt32 >>> ((2 : Int32).toUInt32 &&& Int32.toUInt32 31)).toInt32) rfl ?_
  refine lv_ldcw (v := (858993459)) hx hb hown (hts (.constant RJ6 266 (858993459)) (by decide +kernel)) dJ6_bitCount_0f7a4_18 ?_
  refine lv_iand hx hb dJ6_bitCount_0f7a4_21 ?_
  refine lv_iadd hx hb dJ6_bitCount_0f7a4_22 ?_
  refine lv_istore_n (lv' := [(0, .int (((p0 - (((p0.toUInt32 >>> ((1 : Int32).toUInt32 &&& Int32.toUInt32 31)).toInt32) &&& (1431655765))) &&& (858993459)) + ((((p0 - (((p0.toUInt32 >>> ((1 : Int32).toUInt32 &&& Int32.toUInt32 31)).toInt32) &&& (1431655765))).toUInt32 >>> ((2 : Int32).toUInt32 &&& Int32.toUInt32 31)).toInt32) &&& (858993459))))]) hx hb dJ6_bitCount_0f7a4_23 rfl hl (by decide) rfl (fun ls hl => ?_)
  refine lv_iload_n hx hb dJ6_bitCount_0f7a4_24 rfl (lv_at hl 0 rfl) ?_
  refine lv_iload_n hx hb dJ6_bitCount_0f7a4_25 rfl (lv_at hl 0 rfl) ?_
  refine lv_iconst (v := 4) hx hb dJ6_bitCount_0f7a4_26 (by decide) ?_
  refine lv_iushr hx hb dJ6_bitCount_0f7a4_27 (v := ((((p0 - (((p0.toUInt32 >>> ((1 : Int32).toUInt32 &&& Int32.toUInt32 31)).toInt32) &&& (1431655765))) &&& (858993459)) + ((((p0 - (((p0.toUInt32 >>> ((1 : Int32).toUInt32 &&& Int32.toUInt32 31)).toInt32) &&& (1431655765))).toUInt32 >>> ((2 : Int32).toUInt32 &&& Int32.toUInt32 31)).toInt32) &&& (858993459))).toUInt32 >>> ((4 : Int32).toUInt32 &&& Int32.toUInt32 31)).toInt32) rfl ?_
  refine lv_iadd hx hb dJ6_bitCount_0f7a4_28 ?_
  refine lv_ldcw (v := (252645135)) hx hb hown (hts (.constant RJ6 267 (252645135)) (by decide +kernel)) dJ6_bitCount_0f7a4_29 ?_
  refine lv_iand hx hb dJ6_bitCount_0f7a4_32 ?_
  refine lv_istore_n (lv' := [(0, .int (((((p0 - (((p0.toUInt32 >>> ((1 : Int32).toUInt32 &&& Int32.toUInt32 31)).toInt32) &&& (1431655765))) &&& (858993459)) + ((((p0 - (((p0.toUInt32 >>> ((1 : Int32).toUInt32 &&& Int32.toUInt32 31)).toInt32) &&& (1431655765))).toUInt32 >>> ((2 : Int32).toUInt32 &&& Int32.toUInt32 31)).toInt32) &&& (858993459))) + (((((p0 - (((p0.toUInt32 >>> ((1 : Int32).toUInt32 &&& Int32.toUInt32 31)).toInt32) &&& (1431655765))) &&& (858993459)) + ((((p0 - (((p0.toUInt32 >>> ((1 : Int32).toUInt32 &&& Int32.toUInt32 31)).toInt32) &&& (1431655765))).toUInt32 >>> ((2 : Int32).toUInt32 &&& Int32.toUInt32 31)).toInt32) &&& (858993459))).toUInt32 >>> ((4 : Int32).toUInt32 &&& Int32.toUInt32 31)).toInt32)) &&& (252645135)))]) hx hb dJ6_bitCount_0f7a4_33 rfl hl (by decide) rfl (fun ls hl => ?_)
  refine lv_iload_n hx hb dJ6_bitCount_0f7a4_34 rfl (lv_at hl 0 rfl) ?_
  refine lv_iload_n hx hb dJ6_bitCount_0f7a4_35 rfl (lv_at hl 0 rfl) ?_
  refine lv_bipush (v := 8) hx hb dJ6_bitCount_0f7a4_36 (by decide) ?_
  refine lv_iushr hx hb dJ6_bitCount_0f7a4_38 (v := ((((((p0 - (((p0.toUInt32 >>> ((1 : Int32).toUInt32 &&& Int32.toUInt32 31)).toInt32) &&& (1431655765))) &&& (858993459)) + ((((p0 - (((p0.toUInt32 >>> ((1 : Int32).toUInt32 &&& Int32.toUInt32 31)).toInt32) &&& (1431655765))).toUInt32 >>> ((2 : Int32).toUInt32 &&& Int32.toUInt32 31)).toInt32) &&& (858993459))) + (((((p0 - (((p0.toUInt32 >>> ((1 : Int32).toUInt32 &&& Int32.toUInt32 31)).toInt32) &&& (1431655765))) &&& (858993459)) + ((((p0 - (((p0.toUInt32 >>> ((1 : Int32).toUInt32 &&& Int32.toUInt32 31)).toInt32) &&& (1431655765))).toUInt32 >>> ((2 : Int32).toUInt32 &&& Int32.toUInt32 31)).toInt32) &&& (858993459))).toUInt32 >>> ((4 : Int32).toUInt32 &&& Int32.toUInt32 31)).toInt32)) &&& (252645135)).toUInt32 >>> ((8 : Int32).toUInt32 &&& Int32.toUInt32 31)).toInt32) rfl ?_
  refine lv_iadd hx hb dJ6_bitCount_0f7a4_39 ?_
  refine lv_istore_n (lv' := [(0, .int ((((((p0 - (((p0.toUInt32 >>> ((1 : Int32).toUInt32 &&& Int32.toUInt32 31)).toInt32) &&& (1431655765))) &&& (858993459)) + ((((p0 - (((p0.toUInt32 >>> ((1 : Int32).toUInt32 &&& Int32.toUInt32 31)).toInt32) &&& (1431655765))).toUInt32 >>> ((2 : Int32).toUInt32 &&& Int32.toUInt32 31)).toInt32) &&& (858993459))) + (((((p0 - (((p0.toUInt32 >>> ((1 : Int32).toUInt32 &&& Int32.toUInt32 31)).toInt32) &&& (1431655765))) &&& (858993459)) + ((((p0 - (((p0.toUInt32 >>> ((1 : Int32).toUInt32 &&& Int32.toUInt32 31)).toInt32) &&& (1431655765))).toUInt32 >>> ((2 : Int32).toUInt32 &&& Int32.toUInt32 31)).toInt32) &&& (858993459))).toUInt32 >>> ((4 : Int32).toUInt32 &&& Int32.toUInt32 31)).toInt32)) &&& (252645135)) + (((((((p0 - (((p0.toUInt32 >>> ((1 : Int32).toUInt32 &&& Int32.toUInt32 31)).toInt32) &&& (1431655765))) &&& (858993459)) + ((((p0 - (((p0.toUInt32 >>> ((1 : Int32).toUInt32 &&& Int32.toUInt32 31)).toInt32) &&& (1431655765))).toUInt32 >>> ((2 : Int32).toUInt32 &&& Int32.toUInt32 31)).toInt32) &&& (858993459))) + (((((p0 - (((p0.toUInt32 >>> ((1 : Int32).toUInt32 &&& Int32.toUInt32 31)).toInt32) &&& (1431655765))) &&& (858993459)) + ((((p0 - (((p0.toUInt32 >>> ((1 : Int32).toUInt32 &&& Int32.toUInt32 31)).toInt32) &&& (1431655765))).toUInt32 >>> ((2 : Int32).toUInt32 &&& Int32.toUInt32 31)).toInt32) &&& (858993459))).toUInt32 >>> ((4 : Int32).toUInt32 &&& Int32.toUInt32 31)).toInt32)) &&& (252645135)).toUInt32 >>> ((8 : Int32).toUInt32 &&& Int32.toUInt32 31)).toInt32)))]) hx hb dJ6_bitCount_0f7a4_40 rfl hl (by decide) rfl (fun ls hl => ?_)
  refine lv_iload_n hx hb dJ6_bitCount_0f7a4_41 rfl (lv_at hl 0 rfl) ?_
  refine lv_iload_n hx hb dJ6_bitCount_0f7a4_42 rfl (lv_at hl 0 rfl) ?_
  refine lv_bipush (v := 16) hx hb dJ6_bitCount_0f7a4_43 (by decide) ?_
  refine lv_iushr hx hb dJ6_bitCount_0f7a4_45 (v := (((((((p0 - (((p0.toUInt32 >>> ((1 : Int32).toUInt32 &&& Int32.toUInt32 31)).toInt32) &&& (1431655765))) &&& (858993459)) + ((((p0 - (((p0.toUInt32 >>> ((1 : Int32).toUInt32 &&& Int32.toUInt32 31)).toInt32) &&& (1431655765))).toUInt32 >>> ((2 : Int32).toUInt32 &&& Int32.toUInt32 31)).toInt32) &&& (858993459))) + (((((p0 - (((p0.toUInt32 >>> ((1 : Int32).toUInt32 &&& Int32.toUInt32 31)).toInt32) &&& (1431655765))) &&& (858993459)) + ((((p0 - (((p0.toUInt32 >>> ((1 : Int32).toUInt32 &&& Int32.toUInt32 31)).toInt32) &&& (1431655765))).toUInt32 >>> ((2 : Int32).toUInt32 &&& Int32.toUInt32 31)).toInt32) &&& (858993459))).toUInt32 >>> ((4 : Int32).toUInt32 &&& Int32.toUInt32 31)).toInt32)) &&& (252645135)) + (((((((p0 - (((p0.toUInt32 >>> ((1 : Int32).toUInt32 &&& Int32.toUInt32 31)).toInt32) &&& (1431655765))) &&& (858993459)) + ((((p0 - (((p0.toUInt32 >>> ((1 : Int32).toUInt32 &&& Int32.toUInt32 31)).toInt32) &&& (1431655765))).toUInt32 >>> ((2 : Int32).toUInt32 &&& Int32.toUInt32 31)).toInt32) &&& (858993459))) + (((((p0 - (((p0.toUInt32 >>> ((1 : Int32).toUInt32 &&& Int32.toUInt32 31)).toInt32) &&& (1431655765))) &&& (858993459)) + ((((p0 - (((p0.toUInt32 >>> ((1 : Int32).toUInt32 &&& Int32.toUInt32 31)).toInt32) &&& (1431655765))).toUInt32 >>> ((2 : Int32).toUInt32 &&& Int32.toUInt32 31)).toInt32) &&& (858993459))).toUInt32 >>> ((4 : Int32).toUInt32 &&& Int32.toUInt32 31)).toInt32)) &&& (252645135)).toUInt32 >>> ((8 : Int32).toUInt32 &&& Int32.toUInt32 31)).toInt32)).toUInt32 >>> ((16 : Int32).toUInt32 &&& Int32.toUInt32 31)).toInt32) rfl ?_
  refine lv_iadd hx hb dJ6_bitCount_0f7a4_46 ?_
  refine lv_istore_n (lv' := [(0, .int (((((((p0 - (((p0.toUInt32 >>> ((1 : Int32).toUInt32 &&& Int32.toUInt32 31)).toInt32) &&& (1431655765))) &&& (858993459)) + ((((p0 - (((p0.toUInt32 >>> ((1 : Int32).toUInt32 &&& Int32.toUInt32 31)).toInt32) &&& (1431655765))).toUInt32 >>> ((2 : Int32).toUInt32 &&& Int32.toUInt32 31)).toInt32) &&& (858993459))) + (((((p0 - (((p0.toUInt32 >>> ((1 : Int32).toUInt32 &&& Int32.toUInt32 31)).toInt32) &&& (1431655765))) &&& (858993459)) + ((((p0 - (((p0.toUInt32 >>> ((1 : Int32).toUInt32 &&& Int32.toUInt32 31)).toInt32) &&& (1431655765))).toUInt32 >>> ((2 : Int32).toUInt32 &&& Int32.toUInt32 31)).toInt32) &&& (858993459))).toUInt32 >>> ((4 : Int32).toUInt32 &&& Int32.toUInt32 31)).toInt32)) &&& (252645135)) + (((((((p0 - (((p0.toUInt32 >>> ((1 : Int32).toUInt32 &&& Int32.toUInt32 31)).toInt32) &&& (1431655765))) &&& (858993459)) + ((((p0 - (((p0.toUInt32 >>> ((1 : Int32).toUInt32 &&& Int32.toUInt32 31)).toInt32) &&& (1431655765))).toUInt32 >>> ((2 : Int32).toUInt32 &&& Int32.toUInt32 31)).toInt32) &&& (858993459))) + (((((p0 - (((p0.toUInt32 >>> ((1 : Int32).toUInt32 &&& Int32.toUInt32 31)).toInt32) &&& (1431655765))) &&& (858993459)) + ((((p0 - (((p0.toUInt32 >>> ((1 : Int32).toUInt32 &&& Int32.toUInt32 31)).toInt32) &&& (1431655765))).toUInt32 >>> ((2 : Int32).toUInt32 &&& Int32.toUInt32 31)).toInt32) &&& (858993459))).toUInt32 >>> ((4 : Int32).toUInt32 &&& Int32.toUInt32 31)).toInt32)) &&& (252645135)).toUInt32 >>> ((8 : Int32).toUInt32 &&& Int32.toUInt32 31)).toInt32)) + ((((((((p0 - (((p0.toUInt32 >>> ((1 : Int32).toUInt32 &&& Int32.toUInt32 31)).toInt32) &&& (1431655765))) &&& (858993459)) + ((((p0 - (((p0.toUInt32 >>> ((1 : Int32).toUInt32 &&& Int32.toUInt32 31)).toInt32) &&& (1431655765))).toUInt32 >>> ((2 : Int32).toUInt32 &&& Int32.toUInt32 31)).toInt32) &&& (858993459))) + (((((p0 - (((p0.toUInt32 >>> ((1 : Int32).toUInt32 &&& Int32.toUInt32 31)).toInt32) &&& (1431655765))) &&& (858993459)) + ((((p0 - (((p0.toUInt32 >>> ((1 : Int32).toUInt32 &&& Int32.toUInt32 31)).toInt32) &&& (1431655765))).toUInt32 >>> ((2 : Int32).toUInt32 &&& Int32.toUInt32 31)).toInt32) &&& (858993459))).toUInt32 >>> ((4 : Int32).toUInt32 &&& Int32.toUInt32 31)).toInt32)) &&& (252645135)) + (((((((p0 - (((p0.toUInt32 >>> ((1 : Int32).toUInt32 &&& Int32.toUInt32 31)).toInt32) &&& (1431655765))) &&& (858993459)) + ((((p0 - (((p0.toUInt32 >>> ((1 : Int32).toUInt32 &&& Int32.toUInt32 31)).toInt32) &&& (1431655765))).toUInt32 >>> ((2 : Int32).toUInt32 &&& Int32.toUInt32 31)).toInt32) &&& (858993459))) + (((((p0 - (((p0.toUInt32 >>> ((1 : Int32).toUInt32 &&& Int32.toUInt32 31)).toInt32) &&& (1431655765))) &&& (858993459)) + ((((p0 - (((p0.toUInt32 >>> ((1 : Int32).toUInt32 &&& Int32.toUInt32 31)).toInt32) &&& (1431655765))).toUInt32 >>> ((2 : Int32).toUInt32 &&& Int32.toUInt32 31)).toInt32) &&& (858993459))).toUInt32 >>> ((4 : Int32).toUInt32 &&& Int32.toUInt32 31)).toInt32)) &&& (252645135)).toUInt32 >>> ((8 : Int32).toUInt32 &&& Int32.toUInt32 31)).toInt32)).toUInt32 >>> ((16 : Int32).toUInt32 &&& Int32.toUInt32 31)).toInt32)))]) hx hb dJ6_bitCount_0f7a4_47 rfl hl (by decide) rfl (fun ls hl => ?_)
  refine lv_iload_n hx hb dJ6_bitCount_0f7a4_48 rfl (lv_at hl 0 rfl) ?_
  refine lv_bipush (v := 63) hx hb dJ6_bitCount_0f7a4_49 (by decide) ?_
  refine lv_iand hx hb dJ6_bitCount_0f7a4_51 ?_
  exact W.iret (v := (((((((p0 - (((p0.toUInt32 >>> ((1 : Int32).toUInt32 &&& Int32.toUInt32 31)).toInt32) &&& (1431655765))) &&& (858993459)) + ((((p0 - (((p0.toUInt32 >>> ((1 : Int32).toUInt32 &&& Int32.toUInt32 31)).toInt32) &&& (1431655765))).toUInt32 >>> ((2 : Int32).toUInt32 &&& Int32.toUInt32 31)).toInt32) &&& (858993459))) + (((((p0 - (((p0.toUInt32 >>> ((1 : Int32).toUInt32 &&& Int32.toUInt32 31)).toInt32) &&& (1431655765))) &&& (858993459)) + ((((p0 - (((p0.toUInt32 >>> ((1 : Int32).toUInt32 &&& Int32.toUInt32 31)).toInt32) &&& (1431655765))).toUInt32 >>> ((2 : Int32).toUInt32 &&& Int32.toUInt32 31)).toInt32) &&& (858993459))).toUInt32 >>> ((4 : Int32).toUInt32 &&& Int32.toUInt32 31)).toInt32)) &&& (252645135)) + (((((((p0 - (((p0.toUInt32 >>> ((1 : Int32).toUInt32 &&& Int32.toUInt32 31)).toInt32) &&& (1431655765))) &&& (858993459)) + ((((p0 - (((p0.toUInt32 >>> ((1 : Int32).toUInt32 &&& Int32.toUInt32 31)).toInt32) &&& (1431655765))).toUInt32 >>> ((2 : Int32).toUInt32 &&& Int32.toUInt32 31)).toInt32) &&& (858993459))) + (((((p0 - (((p0.toUInt32 >>> ((1 : Int32).toUInt32 &&& Int32.toUInt32 31)).toInt32) &&& (1431655765))) &&& (858993459)) + ((((p0 - (((p0.toUInt32 >>> ((1 : Int32).toUInt32 &&& Int32.toUInt32 31)).toInt32) &&& (1431655765))).toUInt32 >>> ((2 : Int32).toUInt32 &&& Int32.toUInt32 31)).toInt32) &&& (858993459))).toUInt32 >>> ((4 : Int32).toUInt32 &&& Int32.toUInt32 31)).toInt32)) &&& (252645135)).toUInt32 >>> ((8 : Int32).toUInt32 &&& Int32.toUInt32 31)).toInt32)) + ((((((((p0 - (((p0.toUInt32 >>> ((1 : Int32).toUInt32 &&& Int32.toUInt32 31)).toInt32) &&& (1431655765))) &&& (858993459)) + ((((p0 - (((p0.toUInt32 >>> ((1 : Int32).toUInt32 &&& Int32.toUInt32 31)).toInt32) &&& (1431655765))).toUInt32 >>> ((2 : Int32).toUInt32 &&& Int32.toUInt32 31)).toInt32) &&& (858993459))) + (((((p0 - (((p0.toUInt32 >>> ((1 : Int32).toUInt32 &&& Int32.toUInt32 31)).toInt32) &&& (1431655765))) &&& (858993459)) + ((((p0 - (((p0.toUInt32 >>> ((1 : Int32).toUInt32 &&& Int32.toUInt32 31)).toInt32) &&& (1431655765))).toUInt32 >>> ((2 : Int32).toUInt32 &&& Int32.toUInt32 31)).toInt32) &&& (858993459))).toUInt32 >>> ((4 : Int32).toUInt32 &&& Int32.toUInt32 31)).toInt32)) &&& (252645135)) + (((((((p0 - (((p0.toUInt32 >>> ((1 : Int32).toUInt32 &&& Int32.toUInt32 31)).toInt32) &&& (1431655765))) &&& (858993459)) + ((((p0 - (((p0.toUInt32 >>> ((1 : Int32).toUInt32 &&& Int32.toUInt32 31)).toInt32) &&& (1431655765))).toUInt32 >>> ((2 : Int32).toUInt32 &&& Int32.toUInt32 31)).toInt32) &&& (858993459))) + (((((p0 - (((p0.toUInt32 >>> ((1 : Int32).toUInt32 &&& Int32.toUInt32 31)).toInt32) &&& (1431655765))) &&& (858993459)) + ((((p0 - (((p0.toUInt32 >>> ((1 : Int32).toUInt32 &&& Int32.toUInt32 31)).toInt32) &&& (1431655765))).toUInt32 >>> ((2 : Int32).toUInt32 &&& Int32.toUInt32 31)).toInt32) &&& (858993459))).toUInt32 >>> ((4 : Int32).toUInt32 &&& Int32.toUInt32 31)).toInt32)) &&& (252645135)).toUInt32 >>> ((8 : Int32).toUInt32 &&& Int32.toUInt32 31)).toInt32)).toUInt32 >>> ((16 : Int32).toUInt32 &&& Int32.toUInt32 31)).toInt32)) &&& 63) hx hb hr (fun t ht hW => ⟨(((((((p0 - (((p0.toUInt32 >>> ((1 : Int32).toUInt32 &&& Int32.toUInt32 31)).toInt32) &&& (1431655765))) &&& (858993459)) + ((((p0 - (((p0.toUInt32 >>> ((1 : Int32).toUInt32 &&& Int32.toUInt32 31)).toInt32) &&& (1431655765))).toUInt32 >>> ((2 : Int32).toUInt32 &&& Int32.toUInt32 31)).toInt32) &&& (858993459))) + (((((p0 - (((p0.toUInt32 >>> ((1 : Int32).toUInt32 &&& Int32.toUInt32 31)).toInt32) &&& (1431655765))) &&& (858993459)) + ((((p0 - (((p0.toUInt32 >>> ((1 : Int32).toUInt32 &&& Int32.toUInt32 31)).toInt32) &&& (1431655765))).toUInt32 >>> ((2 : Int32).toUInt32 &&& Int32.toUInt32 31)).toInt32) &&& (858993459))).toUInt32 >>> ((4 : Int32).toUInt32 &&& Int32.toUInt32 31)).toInt32)) &&& (252645135)) + (((((((p0 - (((p0.toUInt32 >>> ((1 : Int32).toUInt32 &&& Int32.toUInt32 31)).toInt32) &&& (1431655765))) &&& (858993459)) + ((((p0 - (((p0.toUInt32 >>> ((1 : Int32).toUInt32 &&& Int32.toUInt32 31)).toInt32) &&& (1431655765))).toUInt32 >>> ((2 : Int32).toUInt32 &&& Int32.toUInt32 31)).toInt32) &&& (858993459))) + (((((p0 - (((p0.toUInt32 >>> ((1 : Int32).toUInt32 &&& Int32.toUInt32 31)).toInt32) &&& (1431655765))) &&& (858993459)) + ((((p0 - (((p0.toUInt32 >>> ((1 : Int32).toUInt32 &&& Int32.toUInt32 31)).toInt32) &&& (1431655765))).toUInt32 >>> ((2 : Int32).toUInt32 &&& Int32.toUInt32 31)).toInt32) &&& (858993459))).toUInt32 >>> ((4 : Int32).toUInt32 &&& Int32.toUInt32 31)).toInt32)) &&& (252645135)).toUInt32 >>> ((8 : Int32).toUInt32 &&& Int32.toUInt32 31)).toInt32)) + ((((((((p0 - (((p0.toUInt32 >>> ((1 : Int32).toUInt32 &&& Int32.toUInt32 31)).toInt32) &&& (1431655765))) &&& (858993459)) + ((((p0 - (((p0.toUInt32 >>> ((1 : Int32).toUInt32 &&& Int32.toUInt32 31)).toInt32) &&& (1431655765))).toUInt32 >>> ((2 : Int32).toUInt32 &&& Int32.toUInt32 31)).toInt32) &&& (858993459))) + (((((p0 - (((p0.toUInt32 >>> ((1 : Int32).toUInt32 &&& Int32.toUInt32 31)).toInt32) &&& (1431655765))) &&& (858993459)) + ((((p0 - (((p0.toUInt32 >>> ((1 : Int32).toUInt32 &&& Int32.toUInt32 31)).toInt32) &&& (1431655765))).toUInt32 >>> ((2 : Int32).toUInt32 &&& Int32.toUInt32 31)).toInt32) &&& (858993459))).toUInt32 >>> ((4 : Int32).toUInt32 &&& Int32.toUInt32 31)).toInt32)) &&& (252645135)) + (((((((p0 - (((p0.toUInt32 >>> ((1 : Int32).toUInt32 &&& Int32.toUInt32 31)).toInt32) &&& (1431655765))) &&& (858993459)) + ((((p0 - (((p0.toUInt32 >>> ((1 : Int32).toUInt32 &&& Int32.toUInt32 31)).toInt32) &&& (1431655765))).toUInt32 >>> ((2 : Int32).toUInt32 &&& Int32.toUInt32 31)).toInt32) &&& (858993459))) + (((((p0 - (((p0.toUInt32 >>> ((1 : Int32).toUInt32 &&& Int32.toUInt32 31)).toInt32) &&& (1431655765))) &&& (858993459)) + ((((p0 - (((p0.toUInt32 >>> ((1 : Int32).toUInt32 &&& Int32.toUInt32 31)).toInt32) &&& (1431655765))).toUInt32 >>> ((2 : Int32).toUInt32 &&& Int32.toUInt32 31)).toInt32) &&& (858993459))).toUInt32 >>> ((4 : Int32).toUInt32 &&& Int32.toUInt32 31)).toInt32)) &&& (252645135)).toUInt32 >>> ((8 : Int32).toUInt32 &&& Int32.toUInt32 31)).toInt32)).toUInt32 >>> ((16 : Int32).toUInt32 &&& Int32.toUInt32 31)).toInt32)) &&& 63, rfl, by unfold s_J6_bitCount_0f7a4; rfl, ht⟩) (fun _ h => by cases h) dJ6_bitCount_0f7a4_52

set_option maxHeartbeats 4000000 in
set_option maxRecDepth 100000 in
theorem c_X5_proved (l : Launch) (dC : Nat → ClassId) (dI : Nat → Nat → Nat) (rl : List (Nat × Nat)) (ad : Nat × Nat → Nat) (cy : Nat → ClassId) (F : Nat → Int32) (M Y : Nat → Nat → Int32) (j : Nat) (i : Nat) (p0 : Int32) (p1 : Int32) (hrl : ∀ r, r ∈ rl ↔ vd F r) (hI : iv F M) (hJ : jv F M) (hj : j < (F 7).toNatClampNeg) (hi : i < (F 21).toNatClampNeg) : Met l yX5_proved wsX5_proved ({ frames := 1, cells := 0, slots := 0, locals := 23 } : Room) (va_Pc [.ref (ad (5, j)), .ref (ad (8, i)), .int p0, .int p1] (pC dC dI rl ad cy (eC ad cy F M Y))) (vp_Si (fun r => r = (s_X11_whenOf F M (nI j) (nI i) p0 p1))) 0 0 (fun _ => False) := by
  refine Met.ofW (cc := cX5_proved) (maxL := 5) (ret := (some .int)) (by decide) rfl ?_
  intro p e s m args below meth c s₁ B hml hv
  obtain ⟨rfl, hP, hK, hN⟩ := hv
  have hx := B.exec
  have hb := B.bytes
  have hr := B.returns
  have hts := atoms_spec (ws := wsX5_proved) B.pre
  have hown : s.vm.findClass RX5 = some m.cls := findClass_of_methodNamed B.named
  have hlocks := B.notSynchronized
  have hin5 : ∀ w ∈ wsX50, w ∈ wsX5_proved := by decide +kernel
  have hin9 : ∀ w ∈ wsX90, w ∈ wsX5_proved := by decide +kernel
  have hl := lv_entry ([.ref (ad (5, j)), .ref (ad (8, i)), .int p0, .int p1]) (n := 5) (Nat.le_of_ble_eq_true rfl)
  rw [lg_entry_eq]
  generalize (lg_sl ([.ref (ad (5, j)), .ref (ad (8, i)), .int p0, .int p1]) ++ List.replicate (5 - (lg_sl ([.ref (ad (5, j)), .ref (ad (8, i)), .int p0, .int p1])).length) Slot.unset).toArray = ls at hl ⊢
  have hl : lv_has ls 5 [(0, .ref (ad (5, j))), (1, .ref (ad (8, i))), (2, .int p0), (3, .int p1)] := hl
  have hn7 : (F 7).toNatClampNeg ≤ 24 := lb_le (iv_7 hI) (by decide)
  have hjc : (nI j).toNatClampNeg = j := nI_clamp (by omega)
  have hn21 : (F 21).toNatClampNeg ≤ 12 := lb_le (iv_21 hI) (by decide)
  have hic : (nI i).toNatClampNeg = i := nI_clamp (by omega)
  refine lv_aload_n hx hb dX5_proved_0 rfl (lv_at hl 1 rfl) ?_
  refine rg_get (D := (dC, dI)) (r := (8, i)) (ci := 8) (v := .int (M 24 i)) (C := RX9) (T := TX9) (N := 3) hx hb hts hin9 hown hK hP ((hrl _).mpr (vd_8 hi)) en_8 rfl 2 (by decide) (hts (.fieldLink RX5 66 "SocietyBook$Statute" "sealed" "Z") (by decide +kernel)) (fun _ h9 => h9) rfl dX5_proved_1 ?_
  refine lv_if_eq (tgt := 29) hx hb dX5_proved_4 (by decide) (fun c1 => ?_) (fun c1 => ?_)
  · refine lv_aload_n hx hb dX5_proved_29 rfl (lv_at hl 0 rfl) ?_
    refine lv_aload_n hx hb dX5_proved_30 rfl (lv_at hl 1 rfl) ?_
    refine rg_get (D := (dC, dI)) (r := (8, i)) (ci := 8) (v := .int (M 23 i)) (C := RX9) (T := TX9) (N := 3) hx hb hts hin9 hown hK hP ((hrl _).mpr (vd_8 hi)) en_8 rfl 1 (by decide) (hts (.fieldLink RX5 72 "SocietyBook$Statute" "what" "I") (by decide +kernel)) (fun _ h9 => h9) rfl dX5_proved_31 ?_
    refine lv_iload_n hx hb dX5_proved_34 rfl (lv_at hl 2 rfl) ?_
    refine vp_callSi (W.runV (As := [.int (M 23 i), .int p0]) (rest := []) ⟨hx, hb, hml, hown, hts⟩ (c_X5_dayKnown l dC dI rl ad cy F M Y j (M 23 i) p0 hrl hI hJ hj (ib_in (lo := 0) (jv_s hJ i hi) (by decide))) (cwV 2 hts gX5_proved_X5_dayKnown rfl rfl rfl (by decide +kernel) ⟨Nat.le_of_ble_eq_true rfl, Nat.le_of_ble_eq_true rfl⟩) ⟨pc_blind, rg_recv hK hP ((hrl _).mpr (vd_5 hj)) (ci := 5) rfl en_5, fun U hU hW => ⟨rfl, by rw [hU]; exact hP, va_K.moved hW.alike hK, nst_w hW hN⟩⟩ rfl rfl hl.1 rfl (lv_room (Nat.le_of_ble_eq_true rfl)) dX5_proved_35 ⟨Nat.zero_le _, Nat.zero_le _⟩) (fun r hr9 => ?_)
    subst hr9
    refine lv_istore (lv' := [(4, .int (s_X11_lastOf F M (nI j) (M 23 i) p0)), (0, .ref (ad (5, j))), (1, .ref (ad (8, i))), (2, .int p0), (3, .int p1)]) hx hb dX5_proved_38 hl (by decide) rfl (fun ls hl => ?_)
    refine lv_iload hx hb dX5_proved_40 (lv_at hl 0 rfl) ?_
    refine lv_bipush (v := (-9)) hx hb dX5_proved_42 (by decide) ?_
    refine lv_icmp_eq (tgt := 50) hx hb dX5_proved_44 (by decide) (fun c2 => ?_) (fun c2 => ?_)
    · refine lv_aload_n hx hb dX5_proved_50 rfl (lv_at hl 2 rfl) ?_
      refine rg_get (D := (dC, dI)) (r := (8, i)) (ci := 8) (v := .int (M 23 i)) (C := RX9) (T := TX9) (N := 3) hx hb hts hin9 hown hK hP ((hrl _).mpr (vd_8 hi)) en_8 rfl 1 (by decide) (hts (.fieldLink RX5 72 "SocietyBook$Statute" "what" "I") (by decide +kernel)) (fun _ h9 => h9) rfl dX5_proved_51 ?_
      refine lv_if_ne (tgt := 89) hx hb dX5_proved_54 (by decide) (fun c3 => ?_) (fun c3 => ?_)
      · refine lv_bipush (v := (-9)) hx hb dX5_proved_89 (by decide) ?_
        exact W.iret (v := (-9)) hx hb hr (fun t ht hW => ⟨(-9), rfl, by unfold s_X11_whenOf; rw [hjc, hic]; rw [if_pos c1]; rw [if_pos c2]; rw [if_neg c3], ht⟩) (fun _ h => by cases h) dX5_proved_91
      · refine lv_aload_n hx hb dX5_proved_57 rfl (lv_at hl 1 rfl) ?_
        refine rg_get (D := (dC, dI)) (r := (5, j)) (ci := 5) (v := .int (M 8 j)) (C := RX5) (T := TX5) (N := 9) hx hb hts hin5 hown hK hP ((hrl _).mpr (vd_5 hj)) en_5 rfl 0 (by decide) (hts (.fieldLink RX5 30 "SocietyBook$Paper" "kind" "I") (by decide +kernel)) (fun _ h9 => h9) rfl dX5_proved_58 ?_
        refine lv_iconst (v := 2) hx hb dX5_proved_61 (by decide) ?_
        refine lv_icmp_ne (tgt := 89) hx hb dX5_proved_62 (by decide) (fun c4 => ?_) (fun c4 => ?_)
        · refine lv_bipush (v := (-9)) hx hb dX5_proved_89 (by decide) ?_
          exact W.iret (v := (-9)) hx hb hr (fun t ht hW => ⟨(-9), rfl, by unfold s_X11_whenOf; rw [hjc, hic]; rw [if_pos c1]; rw [if_pos c2]; rw [if_pos c3]; rw [if_neg c4], ht⟩) (fun _ h => by cases h) dX5_proved_91
        · refine lv_aload_n hx hb dX5_proved_65 rfl (lv_at hl 1 rfl) ?_
          refine rg_get (D := (dC, dI)) (r := (5, j)) (ci := 5) (v := .int (M 11 j)) (C := RX5) (T := TX5) (N := 9) hx hb hts hin5 hown hK hP ((hrl _).mpr (vd_5 hj)) en_5 rfl 3 (by decide) (hts (.fieldLink RX5 39 "SocietyBook$Paper" "toldOn" "I") (by decide +kernel)) (fun _ h9 => h9) rfl dX5_proved_66 ?_
          refine lv_iload_n hx hb dX5_proved_69 rfl (lv_at hl 3 rfl) ?_
          refine lv_icmp_gt (tgt := 89) hx hb dX5_proved_70 (by decide) (fun c5 => ?_) (fun c5 => ?_)
          · refine lv_bipush (v := (-9)) hx hb dX5_proved_89 (by decide) ?_
            exact W.iret (v := (-9)) hx hb hr (fun t ht hW => ⟨(-9), rfl, by unfold s_X11_whenOf; rw [hjc, hic]; rw [if_pos c1]; rw [if_pos c2]; rw [if_pos c3]; rw [if_pos c4]; rw [if_pos c5], ht⟩) (fun _ h => by cases h) dX5_proved_91
          · refine lv_iload_n hx hb dX5_proved_73 rfl (lv_at hl 4 rfl) ?_
            refine lv_if_eq (tgt := 84) hx hb dX5_proved_74 (by decide) (fun c6 => ?_) (fun c6 => ?_)
            · refine lv_aload_n hx hb dX5_proved_84 rfl (lv_at hl 1 rfl) ?_
              refine rg_get (D := (dC, dI)) (r := (5, j)) (ci := 5) (v := .int (M 13 j)) (C := RX5) (T := TX5) (N := 9) hx hb hts hin5 hown hK hP ((hrl _).mpr (vd_5 hj)) en_5 rfl 5 (by decide) (hts (.fieldLink RX5 15 "SocietyBook$Paper" "spanStart" "I") (by decide +kernel)) (fun _ h9 => h9) (show some (Value.int (if M 8 j = 2 then M 13 j else -9)) = some (Value.int (M 13 j)) from by rw [if_pos c4]) dX5_proved_85 ?_
              exact W.iret (v := M 13 j) hx hb hr (fun t ht hW => ⟨M 13 j, rfl, by unfold s_X11_whenOf; rw [hjc, hic]; rw [if_pos c1]; rw [if_pos c2]; rw [if_pos c3]; rw [if_pos c4]; rw [if_neg c5]; rw [if_pos c6], ht⟩) (fun _ h => by cases h) dX5_proved_88
            · refine lv_aload_n hx hb dX5_proved_77 rfl (lv_at hl 1 rfl) ?_
              refine rg_get (D := (dC, dI)) (r := (5, j)) (ci := 5) (v := .int (M 14 j)) (C := RX5) (T := TX5) (N := 9) hx hb hts hin5 hown hK hP ((hrl _).mpr (vd_5 hj)) en_5 rfl 6 (by decide) (hts (.fieldLink RX5 18 "SocietyBook$Paper" "spanEnd" "I") (by decide +kernel)) (fun _ h9 => h9) (show some (Value.int (if M 8 j = 2 then M 14 j else -9)) = some (Value.int (M 14 j)) from by rw [if_pos c4]) dX5_proved_78 ?_
              refine lv_goto (tgt := 88) hx hb dX5_proved_81 (by decide) ?_
              exact W.iret (v := M 14 j) hx hb hr (fun t ht hW => ⟨M 14 j, rfl, by unfold s_X11_whenOf; rw [hjc, hic]; rw [if_pos c1]; rw [if_pos c2]; rw [if_pos c3]; rw [if_pos c4]; rw [if_neg c5]; rw [if_neg c6], ht⟩) (fun _ h => by cases h) dX5_proved_88
    · refine lv_iload hx hb dX5_proved_47 (lv_at hl 0 rfl) ?_
      exact W.iret (v := s_X11_lastOf F M (nI j) (M 23 i) p0) hx hb hr (fun t ht hW => ⟨s_X11_lastOf F M (nI j) (M 23 i) p0, rfl, by unfold s_X11_whenOf; rw [hjc, hic]; rw [if_pos c1]; rw [if_neg c2], ht⟩) (fun _ h => by cases h) dX5_proved_49
  · refine lv_aload_n hx hb dX5_proved_7 rfl (lv_at hl 0 rfl) ?_
    refine rg_get (D := (dC, dI)) (r := (5, j)) (ci := 5) (v := .int (M 15 j)) (C := RX5) (T := TX5) (N := 9) hx hb hts hin5 hown hK hP ((hrl _).mpr (vd_5 hj)) en_5 rfl 7 (by decide) (hts (.fieldLink RX5 21 "SocietyBook$Paper" "openedOn" "I") (by decide +kernel)) (fun _ h9 => h9) rfl dX5_proved_8 ?_
    refine lv_bipush (v := (-9)) hx hb dX5_proved_11 (by decide) ?_
    refine lv_icmp_eq (tgt := 29) hx hb dX5_proved_13 (by decide) (fun c7 => ?_) (fun c7 => ?_)
    · refine lv_aload_n hx hb dX5_proved_29 rfl (lv_at hl 0 rfl) ?_
      refine lv_aload_n hx hb dX5_proved_30 rfl (lv_at hl 1 rfl) ?_
      refine rg_get (D := (dC, dI)) (r := (8, i)) (ci := 8) (v := .int (M 23 i)) (C := RX9) (T := TX9) (N := 3) hx hb hts hin9 hown hK hP ((hrl _).mpr (vd_8 hi)) en_8 rfl 1 (by decide) (hts (.fieldLink RX5 72 "SocietyBook$Statute" "what" "I") (by decide +kernel)) (fun _ h9 => h9) rfl dX5_proved_31 ?_
      refine lv_iload_n hx hb dX5_proved_34 rfl (lv_at hl 2 rfl) ?_
      refine vp_callSi (W.runV (As := [.int (M 23 i), .int p0]) (rest := []) ⟨hx, hb, hml, hown, hts⟩ (c_X5_dayKnown l dC dI rl ad cy F M Y j (M 23 i) p0 hrl hI hJ hj (ib_in (lo := 0) (jv_s hJ i hi) (by decide))) (cwV 2 hts gX5_proved_X5_dayKnown rfl rfl rfl (by decide +kernel) ⟨Nat.le_of_ble_eq_true rfl, Nat.le_of_ble_eq_true rfl⟩) ⟨pc_blind, rg_recv hK hP ((hrl _).mpr (vd_5 hj)) (ci := 5) rfl en_5, fun U hU hW => ⟨rfl, by rw [hU]; exact hP, va_K.moved hW.alike hK, nst_w hW hN⟩⟩ rfl rfl hl.1 rfl (lv_room (Nat.le_of_ble_eq_true rfl)) dX5_proved_35 ⟨Nat.zero_le _, Nat.zero_le _⟩) (fun r hr9 => ?_)
      subst hr9
      refine lv_istore (lv' := [(4, .int (s_X11_lastOf F M (nI j) (M 23 i) p0)), (0, .ref (ad (5, j))), (1, .ref (ad (8, i))), (2, .int p0), (3, .int p1)]) hx hb dX5_proved_38 hl (by decide) rfl (fun ls hl => ?_)
      refine lv_iload hx hb dX5_proved_40 (lv_at hl 0 rfl) ?_
      refine lv_bipush (v := (-9)) hx hb dX5_proved_42 (by decide) ?_
      refine lv_icmp_eq (tgt := 50) hx hb dX5_proved_44 (by decide) (fun c8 => ?_) (fun c8 => ?_)
      · refine lv_aload_n hx hb dX5_proved_50 rfl (lv_at hl 2 rfl) ?_
        refine rg_get (D := (dC, dI)) (r := (8, i)) (ci := 8) (v := .int (M 23 i)) (C := RX9) (T := TX9) (N := 3) hx hb hts hin9 hown hK hP ((hrl _).mpr (vd_8 hi)) en_8 rfl 1 (by decide) (hts (.fieldLink RX5 72 "SocietyBook$Statute" "what" "I") (by decide +kernel)) (fun _ h9 => h9) rfl dX5_proved_51 ?_
        refine lv_if_ne (tgt := 89) hx hb dX5_proved_54 (by decide) (fun c9 => ?_) (fun c9 => ?_)
        · refine lv_bipush (v := (-9)) hx hb dX5_proved_89 (by decide) ?_
          exact W.iret (v := (-9)) hx hb hr (fun t ht hW => ⟨(-9), rfl, by unfold s_X11_whenOf; rw [hjc, hic]; rw [if_neg c1]; rcases Classical.em (((M 8) j) = 1) with z0 | z0; (· rw [if_pos z0]; rw [if_pos c7]; rw [if_pos c8]; rw [if_neg c9]); (· rw [if_neg z0]; rw [if_pos c8]; rw [if_neg c9]), ht⟩) (fun _ h => by cases h) dX5_proved_91
        · refine lv_aload_n hx hb dX5_proved_57 rfl (lv_at hl 1 rfl) ?_
          refine rg_get (D := (dC, dI)) (r := (5, j)) (ci := 5) (v := .int (M 8 j)) (C := RX5) (T := TX5) (N := 9) hx hb hts hin5 hown hK hP ((hrl _).mpr (vd_5 hj)) en_5 rfl 0 (by decide) (hts (.fieldLink RX5 30 "SocietyBook$Paper" "kind" "I") (by decide +kernel)) (fun _ h9 => h9) rfl dX5_proved_58 ?_
          refine lv_iconst (v := 2) hx hb dX5_proved_61 (by decide) ?_
          refine lv_icmp_ne (tgt := 89) hx hb dX5_proved_62 (by decide) (fun c10 => ?_) (fun c10 => ?_)
          · refine lv_bipush (v := (-9)) hx hb dX5_proved_89 (by decide) ?_
            exact W.iret (v := (-9)) hx hb hr (fun t ht hW => ⟨(-9), rfl, by unfold s_X11_whenOf; rw [hjc, hic]; rw [if_neg c1]; rcases Classical.em (((M 8) j) = 1) with z0 | z0; (· rw [if_pos z0]; rw [if_pos c7]; rw [if_pos c8]; rw [if_pos c9]; rw [if_neg c10]); (· rw [if_neg z0]; rw [if_pos c8]; rw [if_pos c9]; rw [if_neg c10]), ht⟩) (fun _ h => by cases h) dX5_proved_91
          · refine lv_aload_n hx hb dX5_proved_65 rfl (lv_at hl 1 rfl) ?_
            refine rg_get (D := (dC, dI)) (r := (5, j)) (ci := 5) (v := .int (M 11 j)) (C := RX5) (T := TX5) (N := 9) hx hb hts hin5 hown hK hP ((hrl _).mpr (vd_5 hj)) en_5 rfl 3 (by decide) (hts (.fieldLink RX5 39 "SocietyBook$Paper" "toldOn" "I") (by decide +kernel)) (fun _ h9 => h9) rfl dX5_proved_66 ?_
            refine lv_iload_n hx hb dX5_proved_69 rfl (lv_at hl 3 rfl) ?_
            refine lv_icmp_gt (tgt := 89) hx hb dX5_proved_70 (by decide) (fun c11 => ?_) (fun c11 => ?_)
            · refine lv_bipush (v := (-9)) hx hb dX5_proved_89 (by decide) ?_
              exact W.iret (v := (-9)) hx hb hr (fun t ht hW => ⟨(-9), rfl, by unfold s_X11_whenOf; rw [hjc, hic]; rw [if_neg c1]; rcases Classical.em (((M 8) j) = 1) with z0 | z0; (· rw [if_pos z0]; rw [if_pos c7]; rw [if_pos c8]; rw [if_pos c9]; rw [if_pos c10]; rw [if_pos c11]); (· rw [if_neg z0]; rw [if_pos c8]; rw [if_pos c9]; rw [if_pos c10]; rw [if_pos c11]), ht⟩) (fun _ h => by cases h) dX5_proved_91
            · refine lv_iload_n hx hb dX5_proved_73 rfl (lv_at hl 4 rfl) ?_
              refine lv_if_eq (tgt := 84) hx hb dX5_proved_74 (by decide) (fun c12 => ?_) (fun c12 => ?_)
              · refine lv_aload_n hx hb dX5_proved_84 rfl (lv_at hl 1 rfl) ?_
                refine rg_get (D := (dC, dI)) (r := (5, j)) (ci := 5) (v := .int (M 13 j)) (C := RX5) (T := TX5) (N := 9) hx hb hts hin5 hown hK hP ((hrl _).mpr (vd_5 hj)) en_5 rfl 5 (by decide) (hts (.fieldLink RX5 15 "SocietyBook$Paper" "spanStart" "I") (by decide +kernel)) (fun _ h9 => h9) (show some (Value.int (if M 8 j = 2 then M 13 j else -9)) = some (Value.int (M 13 j)) from by rw [if_pos c10]) dX5_proved_85 ?_
                exact W.iret (v := M 13 j) hx hb hr (fun t ht hW => ⟨M 13 j, rfl, by unfold s_X11_whenOf; rw [hjc, hic]; rw [if_neg c1]; rcases Classical.em (((M 8) j) = 1) with z0 | z0; (· rw [if_pos z0]; rw [if_pos c7]; rw [if_pos c8]; rw [if_pos c9]; rw [if_pos c10]; rw [if_neg c11]; rw [if_pos c12]); (· rw [if_neg z0]; rw [if_pos c8]; rw [if_pos c9]; rw [if_pos c10]; rw [if_neg c11]; rw [if_pos c12]), ht⟩) (fun _ h => by cases h) dX5_proved_88
              · refine lv_aload_n hx hb dX5_proved_77 rfl (lv_at hl 1 rfl) ?_
                refine rg_get (D := (dC, dI)) (r := (5, j)) (ci := 5) (v := .int (M 14 j)) (C := RX5) (T := TX5) (N := 9) hx hb hts hin5 hown hK hP ((hrl _).mpr (vd_5 hj)) en_5 rfl 6 (by decide) (hts (.fieldLink RX5 18 "SocietyBook$Paper" "spanEnd" "I") (by decide +kernel)) (fun _ h9 => h9) (show some (Value.int (if M 8 j = 2 then M 14 j else -9)) = some (Value.int (M 14 j)) from by rw [if_pos c10]) dX5_proved_78 ?_
                refine lv_goto (tgt := 88) hx hb dX5_proved_81 (by decide) ?_
                exact W.iret (v := M 14 j) hx hb hr (fun t ht hW => ⟨M 14 j, rfl, by unfold s_X11_whenOf; rw [hjc, hic]; rw [if_neg c1]; rcases Classical.em (((M 8) j) = 1) with z0 | z0; (· rw [if_pos z0]; rw [if_pos c7]; rw [if_pos c8]; rw [if_pos c9]; rw [if_pos c10]; rw [if_neg c11]; rw [if_neg c12]); (· rw [if_neg z0]; rw [if_pos c8]; rw [if_pos c9]; rw [if_pos c10]; rw [if_neg c11]; rw [if_neg c12]), ht⟩) (fun _ h => by cases h) dX5_proved_88
      · refine lv_iload hx hb dX5_proved_47 (lv_at hl 0 rfl) ?_
        exact W.iret (v := s_X11_lastOf F M (nI j) (M 23 i) p0) hx hb hr (fun t ht hW => ⟨s_X11_lastOf F M (nI j) (M 23 i) p0, rfl, by unfold s_X11_whenOf; rw [hjc, hic]; rw [if_neg c1]; rcases Classical.em (((M 8) j) = 1) with z0 | z0; (· rw [if_pos z0]; rw [if_pos c7]; rw [if_neg c8]); (· rw [if_neg z0]; rw [if_neg c8]), ht⟩) (fun _ h => by cases h) dX5_proved_49
    · refine lv_aload_n hx hb dX5_proved_16 rfl (lv_at hl 0 rfl) ?_
      refine rg_get (D := (dC, dI)) (r := (5, j)) (ci := 5) (v := .int (M 15 j)) (C := RX5) (T := TX5) (N := 9) hx hb hts hin5 hown hK hP ((hrl _).mpr (vd_5 hj)) en_5 rfl 7 (by decide) (hts (.fieldLink RX5 21 "SocietyBook$Paper" "openedOn" "I") (by decide +kernel)) (fun _ h9 => h9) rfl dX5_proved_17 ?_
      refine lv_iload_n hx hb dX5_proved_20 rfl (lv_at hl 2 rfl) ?_
      refine lv_icmp_gt (tgt := 29) hx hb dX5_proved_21 (by decide) (fun c13 => ?_) (fun c13 => ?_)
      · refine lv_aload_n hx hb dX5_proved_29 rfl (lv_at hl 0 rfl) ?_
        refine lv_aload_n hx hb dX5_proved_30 rfl (lv_at hl 1 rfl) ?_
        refine rg_get (D := (dC, dI)) (r := (8, i)) (ci := 8) (v := .int (M 23 i)) (C := RX9) (T := TX9) (N := 3) hx hb hts hin9 hown hK hP ((hrl _).mpr (vd_8 hi)) en_8 rfl 1 (by decide) (hts (.fieldLink RX5 72 "SocietyBook$Statute" "what" "I") (by decide +kernel)) (fun _ h9 => h9) rfl dX5_proved_31 ?_
        refine lv_iload_n hx hb dX5_proved_34 rfl (lv_at hl 2 rfl) ?_
        refine vp_callSi (W.runV (As := [.int (M 23 i), .int p0]) (rest := []) ⟨hx, hb, hml, hown, hts⟩ (c_X5_dayKnown l dC dI rl ad cy F M Y j (M 23 i) p0 hrl hI hJ hj (ib_in (lo := 0) (jv_s hJ i hi) (by decide))) (cwV 2 hts gX5_proved_X5_dayKnown rfl rfl rfl (by decide +kernel) ⟨Nat.le_of_ble_eq_true rfl, Nat.le_of_ble_eq_true rfl⟩) ⟨pc_blind, rg_recv hK hP ((hrl _).mpr (vd_5 hj)) (ci := 5) rfl en_5, fun U hU hW => ⟨rfl, by rw [hU]; exact hP, va_K.moved hW.alike hK, nst_w hW hN⟩⟩ rfl rfl hl.1 rfl (lv_room (Nat.le_of_ble_eq_true rfl)) dX5_proved_35 ⟨Nat.zero_le _, Nat.zero_le _⟩) (fun r hr9 => ?_)
        subst hr9
        refine lv_istore (lv' := [(4, .int (s_X11_lastOf F M (nI j) (M 23 i) p0)), (0, .ref (ad (5, j))), (1, .ref (ad (8, i))), (2, .int p0), (3, .int p1)]) hx hb dX5_proved_38 hl (by decide) rfl (fun ls hl => ?_)
        refine lv_iload hx hb dX5_proved_40 (lv_at hl 0 rfl) ?_
        refine lv_bipush (v := (-9)) hx hb dX5_proved_42 (by decide) ?_
        refine lv_icmp_eq (tgt := 50) hx hb dX5_proved_44 (by decide) (fun c14 => ?_) (fun c14 => ?_)
        · refine lv_aload_n hx hb dX5_proved_50 rfl (lv_at hl 2 rfl) ?_
          refine rg_get (D := (dC, dI)) (r := (8, i)) (ci := 8) (v := .int (M 23 i)) (C := RX9) (T := TX9) (N := 3) hx hb hts hin9 hown hK hP ((hrl _).mpr (vd_8 hi)) en_8 rfl 1 (by decide) (hts (.fieldLink RX5 72 "SocietyBook$Statute" "what" "I") (by decide +kernel)) (fun _ h9 => h9) rfl dX5_proved_51 ?_
          refine lv_if_ne (tgt := 89) hx hb dX5_proved_54 (by decide) (fun c15 => ?_) (fun c15 => ?_)
          · refine lv_bipush (v := (-9)) hx hb dX5_proved_89 (by decide) ?_
            exact W.iret (v := (-9)) hx hb hr (fun t ht hW => ⟨(-9), rfl, by unfold s_X11_whenOf; rw [hjc, hic]; rw [if_neg c1]; rw [if_pos ((jv_p hJ j hj).2.1 c7)]; rw [if_neg c7]; rw [if_pos c13]; rw [if_pos c14]; rw [if_neg c15], ht⟩) (fun _ h => by cases h) dX5_proved_91
          · refine lv_aload_n hx hb dX5_proved_57 rfl (lv_at hl 1 rfl) ?_
            refine rg_get (D := (dC, dI)) (r := (5, j)) (ci := 5) (v := .int (M 8 j)) (C := RX5) (T := TX5) (N := 9) hx hb hts hin5 hown hK hP ((hrl _).mpr (vd_5 hj)) en_5 rfl 0 (by decide) (hts (.fieldLink RX5 30 "SocietyBook$Paper" "kind" "I") (by decide +kernel)) (fun _ h9 => h9) rfl dX5_proved_58 ?_
            refine lv_iconst (v := 2) hx hb dX5_proved_61 (by decide) ?_
            refine lv_icmp_ne (tgt := 89) hx hb dX5_proved_62 (by decide) (fun c16 => ?_) (fun c16 => ?_)
            · refine lv_bipush (v := (-9)) hx hb dX5_proved_89 (by decide) ?_
              exact W.iret (v := (-9)) hx hb hr (fun t ht hW => ⟨(-9), rfl, by unfold s_X11_whenOf; rw [hjc, hic]; rw [if_neg c1]; rw [if_pos ((jv_p hJ j hj).2.1 c7)]; rw [if_neg c7]; rw [if_pos c13]; rw [if_pos c14]; rw [if_pos c15]; rw [if_neg c16], ht⟩) (fun _ h => by cases h) dX5_proved_91
            · refine lv_aload_n hx hb dX5_proved_65 rfl (lv_at hl 1 rfl) ?_
              refine rg_get (D := (dC, dI)) (r := (5, j)) (ci := 5) (v := .int (M 11 j)) (C := RX5) (T := TX5) (N := 9) hx hb hts hin5 hown hK hP ((hrl _).mpr (vd_5 hj)) en_5 rfl 3 (by decide) (hts (.fieldLink RX5 39 "SocietyBook$Paper" "toldOn" "I") (by decide +kernel)) (fun _ h9 => h9) rfl dX5_proved_66 ?_
              refine lv_iload_n hx hb dX5_proved_69 rfl (lv_at hl 3 rfl) ?_
              refine lv_icmp_gt (tgt := 89) hx hb dX5_proved_70 (by decide) (fun c17 => ?_) (fun c17 => ?_)
              · refine lv_bipush (v := (-9)) hx hb dX5_proved_89 (by decide) ?_
                exact W.iret (v := (-9)) hx hb hr (fun t ht hW => ⟨(-9), rfl, by unfold s_X11_whenOf; rw [hjc, hic]; rw [if_neg c1]; rw [if_pos ((jv_p hJ j hj).2.1 c7)]; rw [if_neg c7]; rw [if_pos c13]; rw [if_pos c14]; rw [if_pos c15]; rw [if_pos c16]; rw [if_pos c17], ht⟩) (fun _ h => by cases h) dX5_proved_91
              · refine lv_iload_n hx hb dX5_proved_73 rfl (lv_at hl 4 rfl) ?_
                refine lv_if_eq (tgt := 84) hx hb dX5_proved_74 (by decide) (fun c18 => ?_) (fun c18 => ?_)
                · refine lv_aload_n hx hb dX5_proved_84 rfl (lv_at hl 1 rfl) ?_
                  refine rg_get (D := (dC, dI)) (r := (5, j)) (ci := 5) (v := .int (M 13 j)) (C := RX5) (T := TX5) (N := 9) hx hb hts hin5 hown hK hP ((hrl _).mpr (vd_5 hj)) en_5 rfl 5 (by decide) (hts (.fieldLink RX5 15 "SocietyBook$Paper" "spanStart" "I") (by decide +kernel)) (fun _ h9 => h9) (show some (Value.int (if M 8 j = 2 then M 13 j else -9)) = some (Value.int (M 13 j)) from by rw [if_pos c16]) dX5_proved_85 ?_
                  exact W.iret (v := M 13 j) hx hb hr (fun t ht hW => ⟨M 13 j, rfl, by unfold s_X11_whenOf; rw [hjc, hic]; rw [if_neg c1]; rw [if_pos ((jv_p hJ j hj).2.1 c7)]; rw [if_neg c7]; rw [if_pos c13]; rw [if_pos c14]; rw [if_pos c15]; rw [if_pos c16]; rw [if_neg c17]; rw [if_pos c18], ht⟩) (fun _ h => by cases h) dX5_proved_88
                · refine lv_aload_n hx hb dX5_proved_77 rfl (lv_at hl 1 rfl) ?_
                  refine rg_get (D := (dC, dI)) (r := (5, j)) (ci := 5) (v := .int (M 14 j)) (C := RX5) (T := TX5) (N := 9) hx hb hts hin5 hown hK hP ((hrl _).mpr (vd_5 hj)) en_5 rfl 6 (by decide) (hts (.fieldLink RX5 18 "SocietyBook$Paper" "spanEnd" "I") (by decide +kernel)) (fun _ h9 => h9) (show some (Value.int (if M 8 j = 2 then M 14 j else -9)) = some (Value.int (M 14 j)) from by rw [if_pos c16]) dX5_proved_78 ?_
                  refine lv_goto (tgt := 88) hx hb dX5_proved_81 (by decide) ?_
                  exact W.iret (v := M 14 j) hx hb hr (fun t ht hW => ⟨M 14 j, rfl, by unfold s_X11_whenOf; rw [hjc, hic]; rw [if_neg c1]; rw [if_pos ((jv_p hJ j hj).2.1 c7)]; rw [if_neg c7]; rw [if_pos c13]; rw [if_pos c14]; rw [if_pos c15]; rw [if_pos c16]; rw [if_neg c17]; rw [if_neg c18], ht⟩) (fun _ h => by cases h) dX5_proved_88
        · refine lv_iload hx hb dX5_proved_47 (lv_at hl 0 rfl) ?_
          exact W.iret (v := s_X11_lastOf F M (nI j) (M 23 i) p0) hx hb hr (fun t ht hW => ⟨s_X11_lastOf F M (nI j) (M 23 i) p0, rfl, by unfold s_X11_whenOf; rw [hjc, hic]; rw [if_neg c1]; rw [if_pos ((jv_p hJ j hj).2.1 c7)]; rw [if_neg c7]; rw [if_pos c13]; rw [if_neg c14], ht⟩) (fun _ h => by cases h) dX5_proved_49
      · refine lv_aload_n hx hb dX5_proved_24 rfl (lv_at hl 0 rfl) ?_
        refine rg_get (D := (dC, dI)) (r := (5, j)) (ci := 5) (v := .int (M 11 j)) (C := RX5) (T := TX5) (N := 9) hx hb hts hin5 hown hK hP ((hrl _).mpr (vd_5 hj)) en_5 rfl 3 (by decide) (hts (.fieldLink RX5 39 "SocietyBook$Paper" "toldOn" "I") (by decide +kernel)) (fun _ h9 => h9) rfl dX5_proved_25 ?_
        exact W.iret (v := M 11 j) hx hb hr (fun t ht hW => ⟨M 11 j, rfl, by unfold s_X11_whenOf; rw [hjc, hic]; rw [if_neg c1]; rw [if_pos ((jv_p hJ j hj).2.1 c7)]; rw [if_neg c7]; rw [if_neg c13], ht⟩) (fun _ h => by cases h) dX5_proved_28

set_option maxHeartbeats 4000000 in
set_option maxRecDepth 100000 in
theorem c_X5_provedWith (l : Launch) (dC : Nat → ClassId) (dI : Nat → Nat → Nat) (rl : List (Nat × Nat)) (ad : Nat × Nat → Nat) (cy : Nat → ClassId) (F : Nat → Int32) (M Y : Nat → Nat → Int32) (j : Nat) (i : Nat) (p0 : Int32) (p1 : Int32) (p2 : Int32) (hrl : ∀ r, r ∈ rl ↔ vd F r) (hI : iv F M) (hJ : jv F M) (hj : j < (F 7).toNatClampNeg) (hi : i < (F 21).toNatClampNeg) : Met l yX5_provedWith wsX5_provedWith ({ frames := 2, cells := 0, slots := 0, locals := 47 } : Room) (va_Pc [.ref (ad (5, j)), .int p0, .ref (ad (8, i)), .int p1, .int p2] (pC dC dI rl ad cy (eC ad cy F M Y))) (vp_Si (fun r => r = if (((M 10 j) >>> (p0 &&& 31)) &&& 1) = 0 then (-9) else s_X11_whenOf F M (nI j) (nI i) p1 p2)) 0 0 (fun _ => False) := by
  refine Met.ofW (cc := cX5_provedWith) (maxL := 5) (ret := (some .int)) (by decide) rfl ?_
  intro p e s m args below meth c s₁ B hml hv
  obtain ⟨rfl, hP, hK, hN⟩ := hv
  have hx := B.exec
  have hb := B.bytes
  have hr := B.returns
  have hts := atoms_spec (ws := wsX5_provedWith) B.pre
  have hown : s.vm.findClass RX5 = some m.cls := findClass_of_methodNamed B.named
  have hlocks := B.notSynchronized
  have hin5 : ∀ w ∈ wsX50, w ∈ wsX5_provedWith := by decide +kernel
  have hl := lv_entry ([.ref (ad (5, j)), .int p0, .ref (ad (8, i)), .int p1, .int p2]) (n := 5) (Nat.le_of_ble_eq_true rfl)
  rw [lg_entry_eq]
  generalize (lg_sl ([.ref (ad (5, j)), .int p0, .ref (ad (8, i)), .int p1, .int p2]) ++ List.replicate (5 - (lg_sl ([.ref (ad (5, j)), .int p0, .ref (ad (8, i)), .int p1, .int p2])).length) Slot.unset).toArray = ls at hl ⊢
  have hl : lv_has ls 5 [(0, .ref (ad (5, j))), (1, .int p0), (2, .ref (ad (8, i))), (3, .int p1), (4, .int p2)] := hl
  refine lv_aload_n hx hb dX5_provedWith_0 rfl (lv_at hl 0 rfl) ?_
  refine rg_get (D := (dC, dI)) (r := (5, j)) (ci := 5) (v := .int (M 10 j)) (C := RX5) (T := TX5) (N := 9) hx hb hts hin5 hown hK hP ((hrl _).mpr (vd_5 hj)) en_5 rfl 2 (by decide) (hts (.fieldLink RX5 36 "SocietyBook$Paper" "claims" "I") (by decide +kernel)) (fun _ h9 => h9) rfl dX5_provedWith_1 ?_
  refine lv_iload_n hx hb dX5_provedWith_4 rfl (lv_at hl 1 rfl) ?_
  refine lv_ishr hx hb dX5_provedWith_5 ?_
  refine lv_iconst (v := 1) hx hb dX5_provedWith_6 (by decide) ?_
  refine lv_iand hx hb dX5_provedWith_7 ?_
  refine lv_if_ne (tgt := 16) hx hb dX5_provedWith_8 (by decide) (fun c1 => ?_) (fun c1 => ?_)
  · refine lv_aload_n hx hb dX5_provedWith_16 rfl (lv_at hl 0 rfl) ?_
    refine lv_aload_n hx hb dX5_provedWith_17 rfl (lv_at hl 2 rfl) ?_
    refine lv_iload_n hx hb dX5_provedWith_18 rfl (lv_at hl 3 rfl) ?_
    refine lv_iload hx hb dX5_provedWith_19 (lv_at hl 4 rfl) ?_
    refine vp_callSi (W.runV (As := [.ref (ad (8, i)), .int p1, .int p2]) (rest := []) ⟨hx, hb, hml, hown, hts⟩ (c_X5_proved l dC dI rl ad cy F M Y j i p1 p2 hrl hI hJ hj hi) (cwV 3 hts gX5_provedWith_X5_proved rfl rfl rfl (by decide +kernel) ⟨Nat.le_of_ble_eq_true rfl, Nat.le_of_ble_eq_true rfl⟩) ⟨pc_blind, rg_recv hK hP ((hrl _).mpr (vd_5 hj)) (ci := 5) rfl en_5, fun U hU hW => ⟨rfl, by rw [hU]; exact hP, va_K.moved hW.alike hK, nst_w hW hN⟩⟩ rfl rfl hl.1 rfl (lv_room (Nat.le_of_ble_eq_true rfl)) dX5_provedWith_21 ⟨Nat.zero_le _, Nat.zero_le _⟩) (fun r hr9 => ?_)
    subst hr9
    exact W.iret (v := (s_X11_whenOf F M (nI j) (nI i) p1 p2)) hx hb hr (fun t ht hW => ⟨(s_X11_whenOf F M (nI j) (nI i) p1 p2), rfl, by exact (if_neg c1).symm, ht⟩) (fun _ h => by cases h) dX5_provedWith_24
  · refine lv_bipush (v := (-9)) hx hb dX5_provedWith_11 (by decide) ?_
    refine lv_goto (tgt := 24) hx hb dX5_provedWith_13 (by decide) ?_
    exact W.iret (v := (-9)) hx hb hr (fun t ht hW => ⟨(-9), rfl, by exact (if_pos c1).symm, ht⟩) (fun _ h => by cases h) dX5_provedWith_24

set_option maxHeartbeats 4000000 in
set_option maxRecDepth 100000 in
theorem c_X10_when (l : Launch) (dC : Nat → ClassId) (dI : Nat → Nat → Nat) (rl : List (Nat × Nat)) (ad : Nat × Nat → Nat) (cy : Nat → ClassId) (F : Nat → Int32) (M Y : Nat → Nat → Int32) (p0 : Int32) (p1 : Int32) (p2 : Int32) (p3 : Int32) (hrl : ∀ r, r ∈ rl ↔ vd F r) (hI : iv F M) (hJ : jv F M) : Met l yX10_when wsX10_when ({ frames := 2, cells := 0, slots := 0, locals := 47 } : Room) (va_Pc [.ref (ad (9, 0)), .int p0, .int p1, .int p2, .int p3] (pC dC dI rl ad cy (eC ad cy F M Y))) (vp_Si (fun r => r = (s_X11_when F M p0 p1 p2 p3))) 0 0 (fun _ => False) := by
  refine Met.ofW (cc := cX10_when) (maxL := 6) (ret := (some .int)) (by decide) rfl ?_
  intro p e s m args below meth c s₁ B hml hv
  obtain ⟨rfl, hP, hK, hN⟩ := hv
  have hx := B.exec
  have hb := B.bytes
  have hr := B.returns
  have hts := atoms_spec (ws := wsX10_when) B.pre
  have hown : s.vm.findClass RX10 = some m.cls := findClass_of_methodNamed B.named
  have hlocks := B.notSynchronized
  have hin10 : ∀ w ∈ wsX100, w ∈ wsX10_when := by decide +kernel
  have hl := lv_entry ([.ref (ad (9, 0)), .int p0, .int p1, .int p2, .int p3]) (n := 6) (Nat.le_of_ble_eq_true rfl)
  rw [lg_entry_eq]
  generalize (lg_sl ([.ref (ad (9, 0)), .int p0, .int p1, .int p2, .int p3]) ++ List.replicate (6 - (lg_sl ([.ref (ad (9, 0)), .int p0, .int p1, .int p2, .int p3])).length) Slot.unset).toArray = ls at hl ⊢
  have hl : lv_has ls 6 [(0, .ref (ad (9, 0))), (1, .int p0), (2, .int p1), (3, .int p2), (4, .int p3)] := hl
  refine lv_aload_n hx hb dX10_when_0 rfl (lv_at hl 0 rfl) ?_
  refine lv_iload_n hx hb dX10_when_1 rfl (lv_at hl 1 rfl) ?_
  refine va_csq (W.runV (As := [.int p0]) (rest := []) ⟨hx, hb, hml, hown, hts⟩ (c_X10_paperAt l dC dI rl ad cy F M Y  p0 hrl hI hJ ) (cwV 1 hts gX10_when_X10_paperAt rfl rfl rfl (by decide +kernel) ⟨Nat.le_of_ble_eq_true rfl, Nat.le_of_ble_eq_true rfl⟩) ⟨pc_blind, rg_recv hK hP ((hrl _).mpr (vd_9 (by decide))) (ci := 9) rfl en_9, fun U hU hW => ⟨rfl, by rw [hU]; exact hP, va_K.moved hW.alike hK, nst_w hW hN⟩⟩ rfl rfl hl.1 rfl (lv_room (Nat.le_of_ble_eq_true rfl)) dX10_when_2 ⟨Nat.zero_le _, Nat.zero_le _⟩) (fun r hr9 => ?_)
  subst hr9
  by_cases c1 : 0 ≤ p0 ∧ p0 ≤ ((F 7) - 1)
  · rw [if_pos c1]
    refine W.eq (g2 := F0 m 5 ls (.ref (ad (5, p0.toNatClampNeg)) :: [])) rfl ?_
    refine lv_astore (lv' := [(5, .ref (ad (5, p0.toNatClampNeg))), (0, .ref (ad (9, 0))), (1, .int p0), (2, .int p1), (3, .int p2), (4, .int p3)]) hx hb dX10_when_5 hl (by decide) rfl (fun ls hl => ?_)
    refine lv_aload hx hb dX10_when_7 (lv_at hl 0 rfl) ?_
    refine lv_ifnull hx hb dX10_when_9 ?_
    refine lv_iload_n hx hb dX10_when_12 rfl (lv_at hl 3 rfl) ?_
    refine lv_iconst (v := 0) hx hb dX10_when_13 (by decide) ?_
    refine lv_aload_n hx hb dX10_when_14 rfl (lv_at hl 1 rfl) ?_
    refine rg_get (D := (dC, dI)) (r := (9, 0)) (ci := 9) (v := .int (F 21)) (C := RX10) (T := TX10) (N := 19) hx hb hts hin10 hown hK hP ((hrl _).mpr (vd_9 (by decide))) en_9 rfl 7 (by decide) (hts (.fieldLink RX10 158 "SocietyBook" "statuteCount" "I") (by decide +kernel)) (fun _ h9 => h9) rfl dX10_when_15 ?_
    refine lv_iconst (v := 1) hx hb dX10_when_18 (by decide) ?_
    refine lv_isub hx hb dX10_when_19 ?_
    refine vp_callSi (W.runS (As := [.int p1, .int 0, .int ((F 21) - 1)]) (rest := []) ⟨hx, hb, hml, hown, hts⟩ (c_X10_isWithin l p1 0 ((F 21) - 1)) (va_cwS 3 hts gX10_when_X10_isWithin rfl rfl rfl (by decide +kernel) ⟨Nat.le_of_ble_eq_true rfl, Nat.le_of_ble_eq_true rfl⟩) ⟨fun _ _ _ _ q => q, fun U hU hW => ⟨rfl, trivial⟩⟩ rfl rfl hl.1 rfl (lv_room (Nat.le_of_ble_eq_true rfl)) dX10_when_20 ⟨Nat.zero_le _, Nat.zero_le _⟩) (fun r hr9 => ?_)
    subst hr9
    refine lv_if_eq (tgt := 33) hx hb dX10_when_23 (by decide) (fun c2 => ?_) (fun c2 => ?_)
    · replace c2 := bo_f c2
      refine lv_iconst (v := (-1)) hx hb dX10_when_33 (by decide) ?_
      exact W.iret (v := (-1)) hx hb hr (fun t ht hW => ⟨(-1), rfl, by unfold s_X11_when; rw [if_pos c1]; rw [if_neg c2], ht⟩) (fun _ h => by cases h) dX10_when_34
    · replace c2 := bo_t c2
      refine lv_iload_n hx hb dX10_when_26 rfl (lv_at hl 4 rfl) ?_
      refine vp_callSi (W.runS (As := [.int p2]) (rest := []) ⟨hx, hb, hml, hown, hts⟩ (c_X10_isDay l p2) (va_cwS 1 hts gX10_when_X10_isDay rfl rfl rfl (by decide +kernel) ⟨Nat.le_of_ble_eq_true rfl, Nat.le_of_ble_eq_true rfl⟩) ⟨fun _ _ _ _ q => q, fun U hU hW => ⟨rfl, trivial⟩⟩ rfl rfl hl.1 rfl (lv_room (Nat.le_of_ble_eq_true rfl)) dX10_when_27 ⟨Nat.zero_le _, Nat.zero_le _⟩) (fun r hr9 => ?_)
      subst hr9
      refine lv_if_ne (tgt := 35) hx hb dX10_when_30 (by decide) (fun c3 => ?_) (fun c3 => ?_)
      · replace c3 := bo_t c3
        refine lv_aload hx hb dX10_when_35 (lv_at hl 0 rfl) ?_
        refine lv_aload_n hx hb dX10_when_37 rfl (lv_at hl 1 rfl) ?_
        refine rg_get (D := (dC, dI)) (r := (9, 0)) (ci := 9) (v := .ref (ad (12, 0))) (C := RX10) (T := TX10) (N := 19) hx hb hts hin10 hown hK hP ((hrl _).mpr (vd_9 (by decide))) en_9 rfl 6 (by decide) (hts (.fieldLink RX10 23 "SocietyBook" "statutes" "[LSocietyBook$Statute;") (by decide +kernel)) (fun _ h9 => h9) rfl dX10_when_38 ?_
        refine lv_iload_n hx hb dX10_when_41 rfl (lv_at hl 3 rfl) ?_
        refine rg_aldq (r := (12, 0)) (v := .ref (ad (8, p1.toNatClampNeg))) hx hb hK hP ((hrl _).mpr (vd_12 (by decide))) 4 en_12 rfl (ib_cn c2 (iv_21 hI) (by decide)) (by rw [if_pos (ix_cn c2 (iv_21 hI).1)]; rfl) dX10_when_42 ?_
        refine lv_iload_n hx hb dX10_when_43 rfl (lv_at hl 4 rfl) ?_
        refine lv_iload hx hb dX10_when_44 (lv_at hl 5 rfl) ?_
        refine vp_callSi (W.runV (As := [.ref (ad (8, p1.toNatClampNeg)), .int p2, .int p3]) (rest := []) ⟨hx, hb, hml, hown, hts⟩ (c_X5_proved l dC dI rl ad cy F M Y p0.toNatClampNeg p1.toNatClampNeg p2 p3 hrl hI hJ (ix_cn c1 (iv_7 hI).1) (ix_cn c2 (iv_21 hI).1)) (cwV 3 hts gX10_when_X5_proved rfl rfl rfl (by decide +kernel) ⟨Nat.le_of_ble_eq_true rfl, Nat.le_of_ble_eq_true rfl⟩) ⟨pc_blind, rg_recv hK hP ((hrl _).mpr (vd_5 (ix_cn c1 (iv_7 hI).1))) (ci := 5) rfl en_5, fun U hU hW => ⟨rfl, by rw [hU]; exact hP, va_K.moved hW.alike hK, nst_w hW hN⟩⟩ rfl rfl hl.1 rfl (lv_room (Nat.le_of_ble_eq_true rfl)) dX10_when_46 ⟨Nat.zero_le _, Nat.zero_le _⟩) (fun r hr9 => ?_)
        subst hr9
        rw [nI_bk (x := p0) c1.1]
        rw [nI_bk (x := p1) c2.1]
        exact W.iret (v := (s_X11_whenOf F M p0 p1 p2 p3)) hx hb hr (fun t ht hW => ⟨(s_X11_whenOf F M p0 p1 p2 p3), rfl, by unfold s_X11_when; rw [if_pos c1]; rw [if_pos c2]; rw [if_pos c3], ht⟩) (fun _ h => by cases h) dX10_when_49
      · replace c3 := bo_f c3
        refine lv_iconst (v := (-1)) hx hb dX10_when_33 (by decide) ?_
        exact W.iret (v := (-1)) hx hb hr (fun t ht hW => ⟨(-1), rfl, by unfold s_X11_when; rw [if_pos c1]; rw [if_pos c2]; rw [if_neg c3], ht⟩) (fun _ h => by cases h) dX10_when_34
  · rw [if_neg c1]
    refine W.eq (g2 := F0 m 5 ls (.null :: [])) rfl ?_
    refine lv_astoreN (lv' := [(5, .null), (0, .ref (ad (9, 0))), (1, .int p0), (2, .int p1), (3, .int p2), (4, .int p3)]) hx hb dX10_when_5 hl (by decide) rfl (fun ls hl => ?_)
    refine lv_aloadN hx hb dX10_when_7 (lv_at hl 0 rfl) ?_
    refine lv_ifnullN (tgt := 33) hx hb dX10_when_9 (by decide) ?_
    refine lv_iconst (v := (-1)) hx hb dX10_when_33 (by decide) ?_
    exact W.iret (v := (-1)) hx hb hr (fun t ht hW => ⟨(-1), rfl, by unfold s_X11_when; rw [if_neg c1], ht⟩) (fun _ h => by cases h) dX10_when_34

def L_cLeast (F : Nat → Int32) (M : Nat → Nat → Int32) (i : Nat) (p0 : Int32) (p1 : Int32) : Nat → Int32
  | 0 => 30500
  | i1 + 1 =>
    if (if (((M 10 i1) >>> (p0 &&& 31)) &&& 1) = 0 then (-9) else s_X11_whenOf F M (nI i1) (nI i) p1 1) = (-9) then (L_cLeast F M i p0 p1 i1) else
    if (if (((M 10 i1) >>> (p0 &&& 31)) &&& 1) = 0 then (-9) else s_X11_whenOf F M (nI i1) (nI i) p1 1) < (L_cLeast F M i p0 p1 i1) then (if (((M 10 i1) >>> (p0 &&& 31)) &&& 1) = 0 then (-9) else s_X11_whenOf F M (nI i1) (nI i) p1 1) else (L_cLeast F M i p0 p1 i1)
set_option maxHeartbeats 4000000 in
set_option maxRecDepth 100000 in
theorem c_X10_leastLatest (l : Launch) (dC : Nat → ClassId) (dI : Nat → Nat → Nat) (rl : List (Nat × Nat)) (ad : Nat × Nat → Nat) (cy : Nat → ClassId) (F : Nat → Int32) (M Y : Nat → Nat → Int32) (i : Nat) (p0 : Int32) (p1 : Int32) (hrl : ∀ r, r ∈ rl ↔ vd F r) (hI : iv F M) (hJ : jv F M) (hi : i < (F 21).toNatClampNeg) : Met l yX10_leastLatest wsX10_leastLatest ({ frames := 3, cells := 0, slots := 0, locals := 71 } : Room) (va_Pc [.ref (ad (9, 0)), .int p0, .ref (ad (8, i)), .int p1] (pC dC dI rl ad cy (eC ad cy F M Y))) (vp_Si (fun r => r = L_cLeast F M i p0 p1 (F 7).toNatClampNeg)) 0 0 (fun _ => False) := by
  refine Met.ofW (cc := cX10_leastLatest) (maxL := 7) (ret := (some .int)) (by decide) rfl ?_
  intro p e s m args below meth c s₁ B hml hv
  obtain ⟨rfl, hP, hK, hN⟩ := hv
  have hx := B.exec
  have hb := B.bytes
  have hr := B.returns
  have hts := atoms_spec (ws := wsX10_leastLatest) B.pre
  have hown : s.vm.findClass RX10 = some m.cls := findClass_of_methodNamed B.named
  have hlocks := B.notSynchronized
  have hin10 : ∀ w ∈ wsX100, w ∈ wsX10_leastLatest := by decide +kernel
  have hl := lv_entry ([.ref (ad (9, 0)), .int p0, .ref (ad (8, i)), .int p1]) (n := 7) (Nat.le_of_ble_eq_true rfl)
  rw [lg_entry_eq]
  generalize (lg_sl ([.ref (ad (9, 0)), .int p0, .ref (ad (8, i)), .int p1]) ++ List.replicate (7 - (lg_sl ([.ref (ad (9, 0)), .int p0, .ref (ad (8, i)), .int p1])).length) Slot.unset).toArray = ls at hl ⊢
  have hl : lv_has ls 7 [(0, .ref (ad (9, 0))), (1, .int p0), (2, .ref (ad (8, i))), (3, .int p1)] := hl
  have hn7 : (F 7).toNatClampNeg ≤ 24 := lb_le (iv_7 hI) (by decide)
  refine lv_sipush (v := 30500) hx hb dX10_leastLatest_0 (by decide) ?_
  refine lv_istore (lv' := [(4, .int 30500), (0, .ref (ad (9, 0))), (1, .int p0), (2, .ref (ad (8, i))), (3, .int p1)]) hx hb dX10_leastLatest_3 hl (by decide) rfl (fun ls hl => ?_)
  refine lv_iconst (v := 0) hx hb dX10_leastLatest_5 (by decide) ?_
  refine lv_istore (lv' := [(5, .int 0), (4, .int 30500), (0, .ref (ad (9, 0))), (1, .int p0), (2, .ref (ad (8, i))), (3, .int p1)]) hx hb dX10_leastLatest_6 hl (by decide) rfl (fun ls hl => ?_)
  refine lp_for (N := (F 7).toNatClampNeg) (lv := fun i1 => [(5, .int (nI i1)), (4, .int (L_cLeast F M i p0 p1 i1)), (0, .ref (ad (9, 0))), (1, .int p0), (2, .ref (ad (8, i))), (3, .int p1)]) (lv_sub hl [0, 1, 2, 3, 4, 5] rfl) (fun i1 hi1 ls hl kk1 => ?_) (fun ls hl => ?_)
  · replace hl : lv_has ls 7 [(5, .int (nI i1)), (4, .int (L_cLeast F M i p0 p1 i1)), (0, .ref (ad (9, 0))), (1, .int p0), (2, .ref (ad (8, i))), (3, .int p1)] := hl
    refine lv_iload hx hb dX10_leastLatest_8 (lv_at hl 0 rfl) ?_
    refine lv_aload_n hx hb dX10_leastLatest_10 rfl (lv_at hl 2 rfl) ?_
    refine rg_get (D := (dC, dI)) (r := (9, 0)) (ci := 9) (v := .int (F 7)) (C := RX10) (T := TX10) (N := 19) hx hb hts hin10 hown hK hP ((hrl _).mpr (vd_9 (by decide))) en_9 rfl 4 (by decide) (hts (.fieldLink RX10 91 "SocietyBook" "paperCount" "I") (by decide +kernel)) (fun _ h9 => h9) rfl dX10_leastLatest_11 ?_
    refine lv_icmp_ge (tgt := 55) hx hb dX10_leastLatest_14 (by decide) (fun c => absurd c (lb_nc hi1)) (fun _ => ?_)
    refine lv_aload_n hx hb dX10_leastLatest_17 rfl (lv_at hl 2 rfl) ?_
    refine rg_get (D := (dC, dI)) (r := (9, 0)) (ci := 9) (v := .ref (ad (11, 0))) (C := RX10) (T := TX10) (N := 19) hx hb hts hin10 hown hK hP ((hrl _).mpr (vd_9 (by decide))) en_9 rfl 3 (by decide) (hts (.fieldLink RX10 17 "SocietyBook" "papers" "[LSocietyBook$Paper;") (by decide +kernel)) (fun _ h9 => h9) rfl dX10_leastLatest_18 ?_
    refine lv_iload hx hb dX10_leastLatest_21 (lv_at hl 0 rfl) ?_
    refine rg_aldq (r := (11, 0)) (v := .ref (ad (5, i1))) hx hb hK hP ((hrl _).mpr (vd_11 (by decide))) 3 en_11 rfl (vp_in_nI (show i1 < 24 by omega) (by decide)) (by rw [nI_clamp (show i1 < 2 ^ 31 by omega)]; rw [if_pos (by omega)]; rfl) dX10_leastLatest_23 ?_
    refine lv_iload_n hx hb dX10_leastLatest_24 rfl (lv_at hl 3 rfl) ?_
    refine lv_aload_n hx hb dX10_leastLatest_25 rfl (lv_at hl 4 rfl) ?_
    refine lv_iload_n hx hb dX10_leastLatest_26 rfl (lv_at hl 5 rfl) ?_
    refine lv_iconst (v := 1) hx hb dX10_leastLatest_27 (by decide) ?_
    refine vp_callSi (W.runV (As := [.int p0, .ref (ad (8, i)), .int p1, .int 1]) (rest := []) ⟨hx, hb, hml, hown, hts⟩ (c_X5_provedWith l dC dI rl ad cy F M Y i1 i p0 p1 1 hrl hI hJ (by omega) hi) (cwV 4 hts gX10_leastLatest_X5_provedWith rfl rfl rfl (by decide +kernel) ⟨Nat.le_of_ble_eq_true rfl, Nat.le_of_ble_eq_true rfl⟩) ⟨pc_blind, rg_recv hK hP ((hrl _).mpr (vd_5 (by omega))) (ci := 5) rfl en_5, fun U hU hW => ⟨rfl, by rw [hU]; exact hP, va_K.moved hW.alike hK, nst_w hW hN⟩⟩ rfl rfl hl.1 rfl (lv_room (Nat.le_of_ble_eq_true rfl)) dX10_leastLatest_28 ⟨Nat.zero_le _, Nat.zero_le _⟩) (fun r hr9 => ?_)
    subst hr9
    refine lv_istore (lv' := [(6, .int (if (((M 10 i1) >>> (p0 &&& 31)) &&& 1) = 0 then (-9) else s_X11_whenOf F M (nI i1) (nI i) p1 1)), (5, .int (nI i1)), (4, .int (L_cLeast F M i p0 p1 i1)), (0, .ref (ad (9, 0))), (1, .int p0), (2, .ref (ad (8, i))), (3, .int p1)]) hx hb dX10_leastLatest_31 hl (by decide) rfl (fun ls hl => ?_)
    refine lv_iload hx hb dX10_leastLatest_33 (lv_at hl 0 rfl) ?_
    refine lv_bipush (v := (-9)) hx hb dX10_leastLatest_35 (by decide) ?_
    refine lv_icmp_eq (tgt := 49) hx hb dX10_leastLatest_37 (by decide) (fun c1 => ?_) (fun c1 => ?_)
    · refine lv_iinc (v := nI (i1 + 1)) (lv' := [(5, .int (nI (i1 + 1))), (6, .int (if (((M 10 i1) >>> (p0 &&& 31)) &&& 1) = 0 then (-9) else s_X11_whenOf F M (nI i1) (nI i) p1 1)), (4, .int (L_cLeast F M i p0 p1 i1)), (0, .ref (ad (9, 0))), (1, .int p0), (2, .ref (ad (8, i))), (3, .int p1)]) hx hb dX10_leastLatest_49 hl (k := 1) rfl (nI_1 i1) (by decide) rfl (fun ls hl => ?_)
      refine lv_goto (tgt := 8) hx hb dX10_leastLatest_52 (by decide) ?_
      have e9 : L_cLeast F M i p0 p1 (i1 + 1) = (L_cLeast F M i p0 p1 i1) := by rw [L_cLeast]; rw [if_pos c1]
      refine kk1 ls (show lv_has ls 7 [(5, .int (nI (i1 + 1))), (4, .int (L_cLeast F M i p0 p1 (i1 + 1))), (0, .ref (ad (9, 0))), (1, .int p0), (2, .ref (ad (8, i))), (3, .int p1)] from ?_)
      rw [e9]; exact lv_sub hl [0, 2, 3, 4, 5, 6] rfl
    · refine lv_iload hx hb dX10_leastLatest_40 (lv_at hl 2 rfl) ?_
      refine lv_iload hx hb dX10_leastLatest_42 (lv_at hl 0 rfl) ?_
      refine va_mmin hx hb (hml.trans hl.1.symm) hown (hts (.methodLink RX10 305 Lib.Math.min.name) (by decide +kernel)) (hts (.static Lib.Math.min.name) (by decide +kernel)) (hts (.initialized "java/lang/Math") (by decide +kernel)) (hts (.code Lib.Math.min.name Lib.Math.min.code 2 (some .int)) (by decide +kernel)) (Nat.le_of_ble_eq_true rfl) (Nat.le_of_ble_eq_true rfl) (Nat.zero_le _) (Nat.zero_le _) dX10_leastLatest_44 ?_
      refine lv_istore (lv' := [(4, .int (if (if (((M 10 i1) >>> (p0 &&& 31)) &&& 1) = 0 then (-9) else s_X11_whenOf F M (nI i1) (nI i) p1 1) < (L_cLeast F M i p0 p1 i1) then (if (((M 10 i1) >>> (p0 &&& 31)) &&& 1) = 0 then (-9) else s_X11_whenOf F M (nI i1) (nI i) p1 1) else (L_cLeast F M i p0 p1 i1))), (6, .int (if (((M 10 i1) >>> (p0 &&& 31)) &&& 1) = 0 then (-9) else s_X11_whenOf F M (nI i1) (nI i) p1 1)), (5, .int (nI i1)), (0, .ref (ad (9, 0))), (1, .int p0), (2, .ref (ad (8, i))), (3, .int p1)]) hx hb dX10_leastLatest_47 hl (by decide) rfl (fun ls hl => ?_)
      refine lv_iinc (v := nI (i1 + 1)) (lv' := [(5, .int (nI (i1 + 1))), (4, .int (if (if (((M 10 i1) >>> (p0 &&& 31)) &&& 1) = 0 then (-9) else s_X11_whenOf F M (nI i1) (nI i) p1 1) < (L_cLeast F M i p0 p1 i1) then (if (((M 10 i1) >>> (p0 &&& 31)) &&& 1) = 0 then (-9) else s_X11_whenOf F M (nI i1) (nI i) p1 1) else (L_cLeast F M i p0 p1 i1))), (6, .int (if (((M 10 i1) >>> (p0 &&& 31)) &&& 1) = 0 then (-9) else s_X11_whenOf F M (nI i1) (nI i) p1 1)), (0, .ref (ad (9, 0))), (1, .int p0), (2, .ref (ad (8, i))), (3, .int p1)]) hx hb dX10_leastLatest_49 hl (k := 2) rfl (nI_1 i1) (by decide) rfl (fun ls hl => ?_)
      refine lv_goto (tgt := 8) hx hb dX10_leastLatest_52 (by decide) ?_
      have e9 : L_cLeast F M i p0 p1 (i1 + 1) = if (if (((M 10 i1) >>> (p0 &&& 31)) &&& 1) = 0 then (-9) else s_X11_whenOf F M (nI i1) (nI i) p1 1) < (L_cLeast F M i p0 p1 i1) then (if (((M 10 i1) >>> (p0 &&& 31)) &&& 1) = 0 then (-9) else s_X11_whenOf F M (nI i1) (nI i) p1 1) else (L_cLeast F M i p0 p1 i1) := by rw [L_cLeast]; rw [if_neg c1]
      refine kk1 ls (show lv_has ls 7 [(5, .int (nI (i1 + 1))), (4, .int (L_cLeast F M i p0 p1 (i1 + 1))), (0, .ref (ad (9, 0))), (1, .int p0), (2, .ref (ad (8, i))), (3, .int p1)] from ?_)
      rw [e9]; exact lv_sub hl [0, 1, 3, 4, 5, 6] rfl
  · replace hl : lv_has ls 7 [(5, .int (nI (F 7).toNatClampNeg)), (4, .int (L_cLeast F M i p0 p1 (F 7).toNatClampNeg)), (0, .ref (ad (9, 0))), (1, .int p0), (2, .ref (ad (8, i))), (3, .int p1)] := hl
    refine lv_iload hx hb dX10_leastLatest_8 (lv_at hl 0 rfl) ?_
    refine lv_aload_n hx hb dX10_leastLatest_10 rfl (lv_at hl 2 rfl) ?_
    refine rg_get (D := (dC, dI)) (r := (9, 0)) (ci := 9) (v := .int (F 7)) (C := RX10) (T := TX10) (N := 19) hx hb hts hin10 hown hK hP ((hrl _).mpr (vd_9 (by decide))) en_9 rfl 4 (by decide) (hts (.fieldLink RX10 91 "SocietyBook" "paperCount" "I") (by decide +kernel)) (fun _ h9 => h9) rfl dX10_leastLatest_11 ?_
    refine lv_icmp_ge (tgt := 55) hx hb dX10_leastLatest_14 (by decide) (fun _ => ?_) (fun c => absurd lb_yc c)
    refine lv_iload hx hb dX10_leastLatest_55 (lv_at hl 1 rfl) ?_
    exact W.iret (v := (L_cLeast F M i p0 p1 (F 7).toNatClampNeg)) hx hb hr (fun t ht hW => ⟨(L_cLeast F M i p0 p1 (F 7).toNatClampNeg), rfl, by rfl, ht⟩) (fun _ h => by cases h) dX10_leastLatest_57

def L_cFirst (F : Nat → Int32) (M : Nat → Nat → Int32) (i : Nat) (p0 : Int32) (p1 : Int32) : Nat → Int32
  | 0 => 0
  | i1 + 1 =>
    if (if (((M 10 i1) >>> (p0 &&& 31)) &&& 1) = 0 then (-9) else s_X11_whenOf F M (nI i1) (nI i) p1 0) = (-9) then (L_cFirst F M i p0 p1 i1) else
    if (L_cLeast F M i p0 p1 (F 7).toNatClampNeg) < (if (((M 10 i1) >>> (p0 &&& 31)) &&& 1) = 0 then (-9) else s_X11_whenOf F M (nI i1) (nI i) p1 0) then (L_cFirst F M i p0 p1 i1) else
    (L_cFirst F M i p0 p1 i1) ||| (1 <<< ((nI i1) &&& 31))
set_option maxHeartbeats 4000000 in
set_option maxRecDepth 100000 in
theorem c_X10_firstWith (l : Launch) (dC : Nat → ClassId) (dI : Nat → Nat → Nat) (rl : List (Nat × Nat)) (ad : Nat × Nat → Nat) (cy : Nat → ClassId) (F : Nat → Int32) (M Y : Nat → Nat → Int32) (i : Nat) (p0 : Int32) (p1 : Int32) (hrl : ∀ r, r ∈ rl ↔ vd F r) (hI : iv F M) (hJ : jv F M) (hi : i < (F 21).toNatClampNeg) : Met l yX10_firstWith wsX10_firstWith ({ frames := 4, cells := 0, slots := 0, locals := 97 } : Room) (va_Pc [.ref (ad (9, 0)), .int p0, .ref (ad (8, i)), .int p1] (pC dC dI rl ad cy (eC ad cy F M Y))) (vp_Si (fun r => r = L_cFirst F M i p0 p1 (F 7).toNatClampNeg)) 0 0 (fun _ => False) := by
  refine Met.ofW (cc := cX10_firstWith) (maxL := 8) (ret := (some .int)) (by decide) rfl ?_
  intro p e s m args below meth c s₁ B hml hv
  obtain ⟨rfl, hP, hK, hN⟩ := hv
  have hx := B.exec
  have hb := B.bytes
  have hr := B.returns
  have hts := atoms_spec (ws := wsX10_firstWith) B.pre
  have hown : s.vm.findClass RX10 = some m.cls := findClass_of_methodNamed B.named
  have hlocks := B.notSynchronized
  have hin10 : ∀ w ∈ wsX100, w ∈ wsX10_firstWith := by decide +kernel
  have hl := lv_entry ([.ref (ad (9, 0)), .int p0, .ref (ad (8, i)), .int p1]) (n := 8) (Nat.le_of_ble_eq_true rfl)
  rw [lg_entry_eq]
  generalize (lg_sl ([.ref (ad (9, 0)), .int p0, .ref (ad (8, i)), .int p1]) ++ List.replicate (8 - (lg_sl ([.ref (ad (9, 0)), .int p0, .ref (ad (8, i)), .int p1])).length) Slot.unset).toArray = ls at hl ⊢
  have hl : lv_has ls 8 [(0, .ref (ad (9, 0))), (1, .int p0), (2, .ref (ad (8, i))), (3, .int p1)] := hl
  have hn7 : (F 7).toNatClampNeg ≤ 24 := lb_le (iv_7 hI) (by decide)
  refine lv_aload_n hx hb dX10_firstWith_0 rfl (lv_at hl 0 rfl) ?_
  refine lv_iload_n hx hb dX10_firstWith_1 rfl (lv_at hl 1 rfl) ?_
  refine lv_aload_n hx hb dX10_firstWith_2 rfl (lv_at hl 2 rfl) ?_
  refine lv_iload_n hx hb dX10_firstWith_3 rfl (lv_at hl 3 rfl) ?_
  refine vp_callSi (W.runV (As := [.int p0, .ref (ad (8, i)), .int p1]) (rest := []) ⟨hx, hb, hml, hown, hts⟩ (c_X10_leastLatest l dC dI rl ad cy F M Y i p0 p1 hrl hI hJ hi) (cwV 3 hts gX10_firstWith_X10_leastLatest rfl rfl rfl (by decide +kernel) ⟨Nat.le_of_ble_eq_true rfl, Nat.le_of_ble_eq_true rfl⟩) ⟨pc_blind, rg_recv hK hP ((hrl _).mpr (vd_9 (by decide))) (ci := 9) rfl en_9, fun U hU hW => ⟨rfl, by rw [hU]; exact hP, va_K.moved hW.alike hK, nst_w hW hN⟩⟩ rfl rfl hl.1 rfl (lv_room (Nat.le_of_ble_eq_true rfl)) dX10_firstWith_4 ⟨Nat.zero_le _, Nat.zero_le _⟩) (fun r hr9 => ?_)
  subst hr9
  refine lv_istore (lv' := [(4, .int (L_cLeast F M i p0 p1 (F 7).toNatClampNeg)), (0, .ref (ad (9, 0))), (1, .int p0), (2, .ref (ad (8, i))), (3, .int p1)]) hx hb dX10_firstWith_7 hl (by decide) rfl (fun ls hl => ?_)
  refine lv_iconst (v := 0) hx hb dX10_firstWith_9 (by decide) ?_
  refine lv_istore (lv' := [(5, .int 0), (4, .int (L_cLeast F M i p0 p1 (F 7).toNatClampNeg)), (0, .ref (ad (9, 0))), (1, .int p0), (2, .ref (ad (8, i))), (3, .int p1)]) hx hb dX10_firstWith_10 hl (by decide) rfl (fun ls hl => ?_)
  refine lv_iconst (v := 0) hx hb dX10_firstWith_12 (by decide) ?_
  refine lv_istore (lv' := [(6, .int 0), (5, .int 0), (4, .int (L_cLeast F M i p0 p1 (F 7).toNatClampNeg)), (0, .ref (ad (9, 0))), (1, .int p0), (2, .ref (ad (8, i))), (3, .int p1)]) hx hb dX10_firstWith_13 hl (by decide) rfl (fun ls hl => ?_)
  refine lp_for (N := (F 7).toNatClampNeg) (lv := fun i1 => [(6, .int (nI i1)), (5, .int (L_cFirst F M i p0 p1 i1)), (4, .int (L_cLeast F M i p0 p1 (F 7).toNatClampNeg)), (0, .ref (ad (9, 0))), (1, .int p0), (2, .ref (ad (8, i))), (3, .int p1)]) (lv_sub hl [0, 1, 2, 3, 4, 5, 6] rfl) (fun i1 hi1 ls hl kk1 => ?_) (fun ls hl => ?_)
  · replace hl : lv_has ls 8 [(6, .int (nI i1)), (5, .int (L_cFirst F M i p0 p1 i1)), (4, .int (L_cLeast F M i p0 p1 (F 7).toNatClampNeg)), (0, .ref (ad (9, 0))), (1, .int p0), (2, .ref (ad (8, i))), (3, .int p1)] := hl
    refine lv_iload hx hb dX10_firstWith_15 (lv_at hl 0 rfl) ?_
    refine lv_aload_n hx hb dX10_firstWith_17 rfl (lv_at hl 3 rfl) ?_
    refine rg_get (D := (dC, dI)) (r := (9, 0)) (ci := 9) (v := .int (F 7)) (C := RX10) (T := TX10) (N := 19) hx hb hts hin10 hown hK hP ((hrl _).mpr (vd_9 (by decide))) en_9 rfl 4 (by decide) (hts (.fieldLink RX10 91 "SocietyBook" "paperCount" "I") (by decide +kernel)) (fun _ h9 => h9) rfl dX10_firstWith_18 ?_
    refine lv_icmp_ge (tgt := 69) hx hb dX10_firstWith_21 (by decide) (fun c => absurd c (lb_nc hi1)) (fun _ => ?_)
    refine lv_aload_n hx hb dX10_firstWith_24 rfl (lv_at hl 3 rfl) ?_
    refine rg_get (D := (dC, dI)) (r := (9, 0)) (ci := 9) (v := .ref (ad (11, 0))) (C := RX10) (T := TX10) (N := 19) hx hb hts hin10 hown hK hP ((hrl _).mpr (vd_9 (by decide))) en_9 rfl 3 (by decide) (hts (.fieldLink RX10 17 "SocietyBook" "papers" "[LSocietyBook$Paper;") (by decide +kernel)) (fun _ h9 => h9) rfl dX10_firstWith_25 ?_
    refine lv_iload hx hb dX10_firstWith_28 (lv_at hl 0 rfl) ?_
    refine rg_aldq (r := (11, 0)) (v := .ref (ad (5, i1))) hx hb hK hP ((hrl _).mpr (vd_11 (by decide))) 3 en_11 rfl (vp_in_nI (show i1 < 24 by omega) (by decide)) (by rw [nI_clamp (show i1 < 2 ^ 31 by omega)]; rw [if_pos (by omega)]; rfl) dX10_firstWith_30 ?_
    refine lv_iload_n hx hb dX10_firstWith_31 rfl (lv_at hl 4 rfl) ?_
    refine lv_aload_n hx hb dX10_firstWith_32 rfl (lv_at hl 5 rfl) ?_
    refine lv_iload_n hx hb dX10_firstWith_33 rfl (lv_at hl 6 rfl) ?_
    refine lv_iconst (v := 0) hx hb dX10_firstWith_34 (by decide) ?_
    refine vp_callSi (W.runV (As := [.int p0, .ref (ad (8, i)), .int p1, .int 0]) (rest := []) ⟨hx, hb, hml, hown, hts⟩ (c_X5_provedWith l dC dI rl ad cy F M Y i1 i p0 p1 0 hrl hI hJ (by omega) hi) (cwV 4 hts gX10_firstWith_X5_provedWith rfl rfl rfl (by decide +kernel) ⟨Nat.le_of_ble_eq_true rfl, Nat.le_of_ble_eq_true rfl⟩) ⟨pc_blind, rg_recv hK hP ((hrl _).mpr (vd_5 (by omega))) (ci := 5) rfl en_5, fun U hU hW => ⟨rfl, by rw [hU]; exact hP, va_K.moved hW.alike hK, nst_w hW hN⟩⟩ rfl rfl hl.1 rfl (lv_room (Nat.le_of_ble_eq_true rfl)) dX10_firstWith_35 ⟨Nat.zero_le _, Nat.zero_le _⟩) (fun r hr9 => ?_)
    subst hr9
    refine lv_istore (lv' := [(7, .int (if (((M 10 i1) >>> (p0 &&& 31)) &&& 1) = 0 then (-9) else s_X11_whenOf F M (nI i1) (nI i) p1 0)), (6, .int (nI i1)), (5, .int (L_cFirst F M i p0 p1 i1)), (4, .int (L_cLeast F M i p0 p1 (F 7).toNatClampNeg)), (0, .ref (ad (9, 0))), (1, .int p0), (2, .ref (ad (8, i))), (3, .int p1)]) hx hb dX10_firstWith_38 hl (by decide) rfl (fun ls hl => ?_)
    refine lv_iload hx hb dX10_firstWith_40 (lv_at hl 0 rfl) ?_
    refine lv_bipush (v := (-9)) hx hb dX10_firstWith_42 (by decide) ?_
    refine lv_icmp_eq (tgt := 63) hx hb dX10_firstWith_44 (by decide) (fun c1 => ?_) (fun c1 => ?_)
    · refine lv_iinc (v := nI (i1 + 1)) (lv' := [(6, .int (nI (i1 + 1))), (7, .int (if (((M 10 i1) >>> (p0 &&& 31)) &&& 1) = 0 then (-9) else s_X11_whenOf F M (nI i1) (nI i) p1 0)), (5, .int (L_cFirst F M i p0 p1 i1)), (4, .int (L_cLeast F M i p0 p1 (F 7).toNatClampNeg)), (0, .ref (ad (9, 0))), (1, .int p0), (2, .ref (ad (8, i))), (3, .int p1)]) hx hb dX10_firstWith_63 hl (k := 1) rfl (nI_1 i1) (by decide) rfl (fun ls hl => ?_)
      refine lv_goto (tgt := 15) hx hb dX10_firstWith_66 (by decide) ?_
      have e9 : L_cFirst F M i p0 p1 (i1 + 1) = (L_cFirst F M i p0 p1 i1) := by rw [L_cFirst]; rw [if_pos c1]
      refine kk1 ls (show lv_has ls 8 [(6, .int (nI (i1 + 1))), (5, .int (L_cFirst F M i p0 p1 (i1 + 1))), (4, .int (L_cLeast F M i p0 p1 (F 7).toNatClampNeg)), (0, .ref (ad (9, 0))), (1, .int p0), (2, .ref (ad (8, i))), (3, .int p1)] from ?_)
      rw [e9]; exact lv_sub hl [0, 2, 3, 4, 5, 6, 7] rfl
    · refine lv_iload hx hb dX10_firstWith_47 (lv_at hl 0 rfl) ?_
      refine lv_iload hx hb dX10_firstWith_49 (lv_at hl 3 rfl) ?_
      refine lv_icmp_gt (tgt := 63) hx hb dX10_firstWith_51 (by decide) (fun c2 => ?_) (fun c2 => ?_)
      · refine lv_iinc (v := nI (i1 + 1)) (lv' := [(6, .int (nI (i1 + 1))), (7, .int (if (((M 10 i1) >>> (p0 &&& 31)) &&& 1) = 0 then (-9) else s_X11_whenOf F M (nI i1) (nI i) p1 0)), (5, .int (L_cFirst F M i p0 p1 i1)), (4, .int (L_cLeast F M i p0 p1 (F 7).toNatClampNeg)), (0, .ref (ad (9, 0))), (1, .int p0), (2, .ref (ad (8, i))), (3, .int p1)]) hx hb dX10_firstWith_63 hl (k := 1) rfl (nI_1 i1) (by decide) rfl (fun ls hl => ?_)
        refine lv_goto (tgt := 15) hx hb dX10_firstWith_66 (by decide) ?_
        have e9 : L_cFirst F M i p0 p1 (i1 + 1) = (L_cFirst F M i p0 p1 i1) := by rw [L_cFirst]; rw [if_neg c1, if_pos c2]
        refine kk1 ls (show lv_has ls 8 [(6, .int (nI (i1 + 1))), (5, .int (L_cFirst F M i p0 p1 (i1 + 1))), (4, .int (L_cLeast F M i p0 p1 (F 7).toNatClampNeg)), (0, .ref (ad (9, 0))), (1, .int p0), (2, .ref (ad (8, i))), (3, .int p1)] from ?_)
        rw [e9]; exact lv_sub hl [0, 2, 3, 4, 5, 6, 7] rfl
      · refine lv_iload hx hb dX10_firstWith_54 (lv_at hl 2 rfl) ?_
        refine lv_iconst (v := 1) hx hb dX10_firstWith_56 (by decide) ?_
        refine lv_iload hx hb dX10_firstWith_57 (lv_at hl 1 rfl) ?_
        refine lv_ishl hx hb dX10_firstWith_59 ?_
        refine lv_ior hx hb dX10_firstWith_60 ?_
        refine lv_istore (lv' := [(5, .int ((L_cFirst F M i p0 p1 i1) ||| (1 <<< ((nI i1) &&& 31)))), (7, .int (if (((M 10 i1) >>> (p0 &&& 31)) &&& 1) = 0 then (-9) else s_X11_whenOf F M (nI i1) (nI i) p1 0)), (6, .int (nI i1)), (4, .int (L_cLeast F M i p0 p1 (F 7).toNatClampNeg)), (0, .ref (ad (9, 0))), (1, .int p0), (2, .ref (ad (8, i))), (3, .int p1)]) hx hb dX10_firstWith_61 hl (by decide) rfl (fun ls hl => ?_)
        refine lv_iinc (v := nI (i1 + 1)) (lv' := [(6, .int (nI (i1 + 1))), (5, .int ((L_cFirst F M i p0 p1 i1) ||| (1 <<< ((nI i1) &&& 31)))), (7, .int (if (((M 10 i1) >>> (p0 &&& 31)) &&& 1) = 0 then (-9) else s_X11_whenOf F M (nI i1) (nI i) p1 0)), (4, .int (L_cLeast F M i p0 p1 (F 7).toNatClampNeg)), (0, .ref (ad (9, 0))), (1, .int p0), (2, .ref (ad (8, i))), (3, .int p1)]) hx hb dX10_firstWith_63 hl (k := 2) rfl (nI_1 i1) (by decide) rfl (fun ls hl => ?_)
        refine lv_goto (tgt := 15) hx hb dX10_firstWith_66 (by decide) ?_
        have e9 : L_cFirst F M i p0 p1 (i1 + 1) = (L_cFirst F M i p0 p1 i1) ||| (1 <<< ((nI i1) &&& 31)) := by rw [L_cFirst]; rw [if_neg c1, if_neg c2]
        refine kk1 ls (show lv_has ls 8 [(6, .int (nI (i1 + 1))), (5, .int (L_cFirst F M i p0 p1 (i1 + 1))), (4, .int (L_cLeast F M i p0 p1 (F 7).toNatClampNeg)), (0, .ref (ad (9, 0))), (1, .int p0), (2, .ref (ad (8, i))), (3, .int p1)] from ?_)
        rw [e9]; exact lv_sub hl [0, 1, 3, 4, 5, 6, 7] rfl
  · replace hl : lv_has ls 8 [(6, .int (nI (F 7).toNatClampNeg)), (5, .int (L_cFirst F M i p0 p1 (F 7).toNatClampNeg)), (4, .int (L_cLeast F M i p0 p1 (F 7).toNatClampNeg)), (0, .ref (ad (9, 0))), (1, .int p0), (2, .ref (ad (8, i))), (3, .int p1)] := hl
    refine lv_iload hx hb dX10_firstWith_15 (lv_at hl 0 rfl) ?_
    refine lv_aload_n hx hb dX10_firstWith_17 rfl (lv_at hl 3 rfl) ?_
    refine rg_get (D := (dC, dI)) (r := (9, 0)) (ci := 9) (v := .int (F 7)) (C := RX10) (T := TX10) (N := 19) hx hb hts hin10 hown hK hP ((hrl _).mpr (vd_9 (by decide))) en_9 rfl 4 (by decide) (hts (.fieldLink RX10 91 "SocietyBook" "paperCount" "I") (by decide +kernel)) (fun _ h9 => h9) rfl dX10_firstWith_18 ?_
    refine lv_icmp_ge (tgt := 69) hx hb dX10_firstWith_21 (by decide) (fun _ => ?_) (fun c => absurd lb_yc c)
    refine lv_iload hx hb dX10_firstWith_69 (lv_at hl 1 rfl) ?_
    exact W.iret (v := (L_cFirst F M i p0 p1 (F 7).toNatClampNeg)) hx hb hr (fun t ht hW => ⟨(L_cFirst F M i p0 p1 (F 7).toNatClampNeg), rfl, by rfl, ht⟩) (fun _ h => by cases h) dX10_firstWith_71

set_option maxHeartbeats 4000000 in
set_option maxRecDepth 100000 in
theorem c_X10_mean (l : Launch) (dC : Nat → ClassId) (dI : Nat → Nat → Nat) (rl : List (Nat × Nat)) (ad : Nat × Nat → Nat) (cy : Nat → ClassId) (F : Nat → Int32) (M Y : Nat → Nat → Int32)  (hrl : ∀ r, r ∈ rl ↔ vd F r) (hI : iv F M) (hJ : jv F M) (A : Nat → Prop) (hD : va_D A (rx_W rl ad (eC ad cy F M Y))) : Met l yX10_mean wsX10_mean ({ frames := 1, cells := 0, slots := 0, locals := 22 } : Room) (va_Pc [.ref (ad (9, 0))] (pC dC dI rl ad cy (eC ad cy F M Y))) (va_Qi (fun r (_ : Nat → Nat → Int32) => r = (s_X11_mean F M ).1) (qC A dC dI rl ad cy (s_X11_mean F M ).2.1 (s_X11_mean F M ).2.2) A) 0 0 A := by
  refine Met.ofW (cc := cX10_mean) (maxL := 4) (ret := (some .int)) (by decide) rfl ?_
  intro p e s m args below meth c s₁ B hml hv
  obtain ⟨rfl, hP, hK, hN⟩ := hv
  have hx := B.exec
  have hb := B.bytes
  have hr := B.returns
  have hts := atoms_spec (ws := wsX10_mean) B.pre
  have hown : s.vm.findClass RX10 = some m.cls := findClass_of_methodNamed B.named
  have hlocks := B.notSynchronized
  have hin10 : ∀ w ∈ wsX100, w ∈ wsX10_mean := by decide +kernel
  have hS : va_S A s.heap s.heap [] := va_S.rf
  have hl := lv_entry ([.ref (ad (9, 0))]) (n := 4) (Nat.le_of_ble_eq_true rfl)
  rw [lg_entry_eq]
  generalize (lg_sl ([.ref (ad (9, 0))]) ++ List.replicate (4 - (lg_sl ([.ref (ad (9, 0))])).length) Slot.unset).toArray = ls at hl ⊢
  have hl : lv_has ls 4 [(0, .ref (ad (9, 0)))] := hl
  have hn7 : (F 7).toNatClampNeg ≤ 24 := lb_le (iv_7 hI) (by decide)
  refine lv_iconst (v := 0) hx hb dX10_mean_0 (by decide) ?_
  refine lv_istore_n (lv' := [(1, .int 0), (0, .ref (ad (9, 0)))]) hx hb dX10_mean_1 rfl hl (by decide) rfl (fun ls hl => ?_)
  refine lv_iconst (v := 0) hx hb dX10_mean_2 (by decide) ?_
  refine lv_istore_n (lv' := [(2, .int 0), (1, .int 0), (0, .ref (ad (9, 0)))]) hx hb dX10_mean_3 rfl hl (by decide) rfl (fun ls hl => ?_)
  refine lv_iconst (v := 0) hx hb dX10_mean_4 (by decide) ?_
  refine lv_istore_n (lv' := [(3, .int 0), (2, .int 0), (1, .int 0), (0, .ref (ad (9, 0)))]) hx hb dX10_mean_5 rfl hl (by decide) rfl (fun ls hl => ?_)
  refine lp_for (N := (F 7).toNatClampNeg) (lv := fun i1 => [(3, .int (nI i1)), (2, .int ((L_mean F M i1).2)), (1, .int ((L_mean F M i1).1)), (0, .ref (ad (9, 0)))]) (lv_sub hl [0, 1, 2, 3] rfl) (fun i1 hi1 ls hl kk1 => ?_) (fun ls hl => ?_)
  · replace hl : lv_has ls 4 [(3, .int (nI i1)), (2, .int ((L_mean F M i1).2)), (1, .int ((L_mean F M i1).1)), (0, .ref (ad (9, 0)))] := hl
    refine lv_iload_n hx hb dX10_mean_6 rfl (lv_at hl 0 rfl) ?_
    refine lv_aload_n hx hb dX10_mean_7 rfl (lv_at hl 3 rfl) ?_
    refine rg_get (D := (dC, dI)) (r := (9, 0)) (ci := 9) (v := .int (F 7)) (C := RX10) (T := TX10) (N := 19) hx hb hts hin10 hown hK hP ((hrl _).mpr (vd_9 (by decide))) en_9 rfl 4 (by decide) (hts (.fieldLink RX10 91 "SocietyBook" "paperCount" "I") (by decide +kernel)) (fun _ h9 => h9) rfl dX10_mean_8 ?_
    refine lv_icmp_ge (tgt := 62) hx hb dX10_mean_11 (by decide) (fun c => absurd c (lb_nc hi1)) (fun _ => ?_)
    refine lv_aload_n hx hb dX10_mean_14 rfl (lv_at hl 3 rfl) ?_
    refine rg_get (D := (dC, dI)) (r := (9, 0)) (ci := 9) (v := .ref (ad (11, 0))) (C := RX10) (T := TX10) (N := 19) hx hb hts hin10 hown hK hP ((hrl _).mpr (vd_9 (by decide))) en_9 rfl 3 (by decide) (hts (.fieldLink RX10 17 "SocietyBook" "papers" "[LSocietyBook$Paper;") (by decide +kernel)) (fun _ h9 => h9) rfl dX10_mean_15 ?_
    refine lv_iload_n hx hb dX10_mean_18 rfl (lv_at hl 0 rfl) ?_
    refine rg_aldq (r := (11, 0)) (v := .ref (ad (5, i1))) hx hb hK hP ((hrl _).mpr (vd_11 (by decide))) 3 en_11 rfl (vp_in_nI (show i1 < 24 by omega) (by decide)) (by rw [nI_clamp (show i1 < 2 ^ 31 by omega)]; rw [if_pos (by omega)]; rfl) dX10_mean_19 ?_
    refine lv_iconst (v := 1) hx hb dX10_mean_20 (by decide) ?_
    refine vp_callSi (W.runV (As := [.int 1]) (rest := []) ⟨hx, hb, hml, hown, hts⟩ (c_X5_lastDay l dC dI rl ad cy F M Y i1 1 hrl hI hJ (by omega) (ib_lit (by decide))) (cwV 1 hts gX10_mean_X5_lastDay rfl rfl rfl (by decide +kernel) ⟨Nat.le_of_ble_eq_true rfl, Nat.le_of_ble_eq_true rfl⟩) ⟨pc_blind, rg_recv hK hP ((hrl _).mpr (vd_5 (by omega))) (ci := 5) rfl en_5, fun U hU hW => ⟨rfl, by rw [hU]; exact hP, va_K.moved hW.alike hK, nst_w hW hN⟩⟩ rfl rfl hl.1 rfl (lv_room (Nat.le_of_ble_eq_true rfl)) dX10_mean_21 ⟨Nat.zero_le _, Nat.zero_le _⟩) (fun r hr9 => ?_)
    subst hr9
    refine lv_bipush (v := (-9)) hx hb dX10_mean_24 (by decide) ?_
    refine lv_icmp_eq (tgt := 56) hx hb dX10_mean_26 (by decide) (fun c1 => ?_) (fun c1 => ?_)
    · refine lv_iinc (v := nI (i1 + 1)) (lv' := [(3, .int (nI (i1 + 1))), (2, .int ((L_mean F M i1).2)), (1, .int ((L_mean F M i1).1)), (0, .ref (ad (9, 0)))]) hx hb dX10_mean_56 hl (k := 0) rfl (nI_1 i1) (by decide) rfl (fun ls hl => ?_)
      refine lv_goto (tgt := 6) hx hb dX10_mean_59 (by decide) ?_
      have e9 : L_mean F M (i1 + 1) = ((L_mean F M i1).1, (L_mean F M i1).2) := by rw [L_mean]; rcases Classical.em ((s_X11_lastOf F M (nI i1) 0 30000) = (-9)) with z0 | z0; (· rw [if_pos z0]; rw [Int32.add_zero, Int32.add_zero]); (· rw [if_neg z0]; rw [if_pos c1]; rw [Int32.add_zero, Int32.add_zero])
      refine kk1 ls (show lv_has ls 4 [(3, .int (nI (i1 + 1))), (2, .int ((L_mean F M (i1 + 1)).2)), (1, .int ((L_mean F M (i1 + 1)).1)), (0, .ref (ad (9, 0)))] from ?_)
      rw [e9]; exact lv_sub hl [0, 1, 2, 3] rfl
    · refine lv_iload_n hx hb dX10_mean_29 rfl (lv_at hl 2 rfl) ?_
      refine lv_aload_n hx hb dX10_mean_30 rfl (lv_at hl 3 rfl) ?_
      refine rg_get (D := (dC, dI)) (r := (9, 0)) (ci := 9) (v := .ref (ad (11, 0))) (C := RX10) (T := TX10) (N := 19) hx hb hts hin10 hown hK hP ((hrl _).mpr (vd_9 (by decide))) en_9 rfl 3 (by decide) (hts (.fieldLink RX10 17 "SocietyBook" "papers" "[LSocietyBook$Paper;") (by decide +kernel)) (fun _ h9 => h9) rfl dX10_mean_31 ?_
      refine lv_iload_n hx hb dX10_mean_34 rfl (lv_at hl 0 rfl) ?_
      refine rg_aldq (r := (11, 0)) (v := .ref (ad (5, i1))) hx hb hK hP ((hrl _).mpr (vd_11 (by decide))) 3 en_11 rfl (vp_in_nI (show i1 < 24 by omega) (by decide)) (by rw [nI_clamp (show i1 < 2 ^ 31 by omega)]; rw [if_pos (by omega)]; rfl) dX10_mean_35 ?_
      refine lv_iconst (v := 1) hx hb dX10_mean_36 (by decide) ?_
      refine vp_callSi (W.runV (As := [.int 1]) (rest := [.int ((L_mean F M i1).1)]) ⟨hx, hb, hml, hown, hts⟩ (c_X5_lastDay l dC dI rl ad cy F M Y i1 1 hrl hI hJ (by omega) (ib_lit (by decide))) (cwV 1 hts gX10_mean_X5_lastDay rfl rfl rfl (by decide +kernel) ⟨Nat.le_of_ble_eq_true rfl, Nat.le_of_ble_eq_true rfl⟩) ⟨pc_blind, rg_recv hK hP ((hrl _).mpr (vd_5 (by omega))) (ci := 5) rfl en_5, fun U hU hW => ⟨rfl, by rw [hU]; exact hP, va_K.moved hW.alike hK, nst_w hW hN⟩⟩ rfl rfl hl.1 rfl (lv_room (Nat.le_of_ble_eq_true rfl)) dX10_mean_37 ⟨Nat.zero_le _, Nat.zero_le _⟩) (fun r hr9 => ?_)
      subst hr9
      refine lv_aload_n hx hb dX10_mean_40 rfl (lv_at hl 3 rfl) ?_
      refine rg_get (D := (dC, dI)) (r := (9, 0)) (ci := 9) (v := .ref (ad (11, 0))) (C := RX10) (T := TX10) (N := 19) hx hb hts hin10 hown hK hP ((hrl _).mpr (vd_9 (by decide))) en_9 rfl 3 (by decide) (hts (.fieldLink RX10 17 "SocietyBook" "papers" "[LSocietyBook$Paper;") (by decide +kernel)) (fun _ h9 => h9) rfl dX10_mean_41 ?_
      refine lv_iload_n hx hb dX10_mean_44 rfl (lv_at hl 0 rfl) ?_
      refine rg_aldq (r := (11, 0)) (v := .ref (ad (5, i1))) hx hb hK hP ((hrl _).mpr (vd_11 (by decide))) 3 en_11 rfl (vp_in_nI (show i1 < 24 by omega) (by decide)) (by rw [nI_clamp (show i1 < 2 ^ 31 by omega)]; rw [if_pos (by omega)]; rfl) dX10_mean_45 ?_
      refine lv_iconst (v := 0) hx hb dX10_mean_46 (by decide) ?_
      refine vp_callSi (W.runV (As := [.int 0]) (rest := [.int (s_X11_lastOf F M (nI i1) 1 30000), .int ((L_mean F M i1).1)]) ⟨hx, hb, hml, hown, hts⟩ (c_X5_lastDay l dC dI rl ad cy F M Y i1 0 hrl hI hJ (by omega) (ib_lit (by decide))) (cwV 1 hts gX10_mean_X5_lastDay rfl rfl rfl (by decide +kernel) ⟨Nat.le_of_ble_eq_true rfl, Nat.le_of_ble_eq_true rfl⟩) ⟨pc_blind, rg_recv hK hP ((hrl _).mpr (vd_5 (by omega))) (ci := 5) rfl en_5, fun U hU hW => ⟨rfl, by rw [hU]; exact hP, va_K.moved hW.alike hK, nst_w hW hN⟩⟩ rfl rfl hl.1 rfl (lv_room (Nat.le_of_ble_eq_true rfl)) dX10_mean_47 ⟨Nat.zero_le _, Nat.zero_le _⟩) (fun r hr9 => ?_)
      subst hr9
      refine lv_isub hx hb dX10_mean_50 ?_
      refine lv_iadd hx hb dX10_mean_51 ?_
      refine lv_istore_n (lv' := [(1, .int (((L_mean F M i1).1) + ((s_X11_lastOf F M (nI i1) 1 30000) - (s_X11_lastOf F M (nI i1) 0 30000)))), (3, .int (nI i1)), (2, .int ((L_mean F M i1).2)), (0, .ref (ad (9, 0)))]) hx hb dX10_mean_52 rfl hl (by decide) rfl (fun ls hl => ?_)
      refine lv_iinc (v := ((L_mean F M i1).2) + 1) (lv' := [(2, .int (((L_mean F M i1).2) + 1)), (1, .int (((L_mean F M i1).1) + ((s_X11_lastOf F M (nI i1) 1 30000) - (s_X11_lastOf F M (nI i1) 0 30000)))), (3, .int (nI i1)), (0, .ref (ad (9, 0)))]) hx hb dX10_mean_53 hl (k := 2) rfl (by rfl) (by decide) rfl (fun ls hl => ?_)
      refine lv_iinc (v := nI (i1 + 1)) (lv' := [(3, .int (nI (i1 + 1))), (2, .int (((L_mean F M i1).2) + 1)), (1, .int (((L_mean F M i1).1) + ((s_X11_lastOf F M (nI i1) 1 30000) - (s_X11_lastOf F M (nI i1) 0 30000)))), (0, .ref (ad (9, 0)))]) hx hb dX10_mean_56 hl (k := 2) rfl (nI_1 i1) (by decide) rfl (fun ls hl => ?_)
      refine lv_goto (tgt := 6) hx hb dX10_mean_59 (by decide) ?_
      have e9 : L_mean F M (i1 + 1) = (((L_mean F M i1).1) + ((s_X11_lastOf F M (nI i1) 1 30000) - (s_X11_lastOf F M (nI i1) 0 30000)), ((L_mean F M i1).2) + 1) := by rw [L_mean]; rw [if_neg (show ¬ s_X11_lastOf F M (nI i1) 0 30000 = -9 from fun q => c1 (jv_r hJ i1 (by omega) q))]; rw [if_neg c1]
      refine kk1 ls (show lv_has ls 4 [(3, .int (nI (i1 + 1))), (2, .int ((L_mean F M (i1 + 1)).2)), (1, .int ((L_mean F M (i1 + 1)).1)), (0, .ref (ad (9, 0)))] from ?_)
      rw [e9]; exact lv_sub hl [0, 1, 2, 3] rfl
  · replace hl : lv_has ls 4 [(3, .int (nI (F 7).toNatClampNeg)), (2, .int ((L_mean F M (F 7).toNatClampNeg).2)), (1, .int ((L_mean F M (F 7).toNatClampNeg).1)), (0, .ref (ad (9, 0)))] := hl
    refine lv_iload_n hx hb dX10_mean_6 rfl (lv_at hl 0 rfl) ?_
    refine lv_aload_n hx hb dX10_mean_7 rfl (lv_at hl 3 rfl) ?_
    refine rg_get (D := (dC, dI)) (r := (9, 0)) (ci := 9) (v := .int (F 7)) (C := RX10) (T := TX10) (N := 19) hx hb hts hin10 hown hK hP ((hrl _).mpr (vd_9 (by decide))) en_9 rfl 4 (by decide) (hts (.fieldLink RX10 91 "SocietyBook" "paperCount" "I") (by decide +kernel)) (fun _ h9 => h9) rfl dX10_mean_8 ?_
    refine lv_icmp_ge (tgt := 62) hx hb dX10_mean_11 (by decide) (fun _ => ?_) (fun c => absurd lb_yc c)
    refine lv_iload_n hx hb dX10_mean_62 rfl (lv_at hl 1 rfl) ?_
    refine lv_if_ne (tgt := 72) hx hb dX10_mean_63 (by decide) (fun c2 => ?_) (fun c2 => ?_)
    · refine lv_iload_n hx hb dX10_mean_72 rfl (lv_at hl 2 rfl) ?_
      refine lv_iload_n hx hb dX10_mean_73 rfl (lv_at hl 1 rfl) ?_
      refine lv_idiv hx hb dX10_mean_74 c2 ?_
      have E9 : s_X11_mean F M  = (((L_mean F M (F 7).toNatClampNeg).1) / ((L_mean F M (F 7).toNatClampNeg).2), (F, M)) := by unfold s_X11_mean; rw [if_neg c2]
      exact W.iret (v := ((L_mean F M (F 7).toNatClampNeg).1) / ((L_mean F M (F 7).toNatClampNeg).2)) hx hb hr (fun t ht hW => ⟨⟨((L_mean F M (F 7).toNatClampNeg).1) / ((L_mean F M (F 7).toNatClampNeg).2), Y, rfl, by rw [E9], by rw [E9]; exact ⟨⟨by rw [ht]; exact hP, va_K.moved hW.alike hK, nst_w hW hN⟩, hD⟩⟩, hS.F ht⟩) hS.2.2 dX10_mean_75
    · refine lv_aload_n hx hb dX10_mean_66 rfl (lv_at hl 3 rfl) ?_
      refine lv_iconst (v := 4) hx hb dX10_mean_67 (by decide) ?_
      refine va_calli (va_runV (As := [.int 4]) (rest := []) ⟨hx, hb, hml, hown, hts⟩ (c_X10_found l dC dI rl ad cy F M Y  4 hrl hI hJ A hD (ib_lit (by decide))) (cwV 1 hts gX10_mean_X10_found rfl rfl rfl (by decide +kernel) ⟨Nat.le_of_ble_eq_true rfl, Nat.le_of_ble_eq_true rfl⟩) ⟨pc_blind, rg_recv hK hP ((hrl _).mpr (vd_9 (by decide))) (ci := 9) rfl en_9, fun U hU hW => ⟨rfl, by rw [hU]; exact hP, va_K.moved hW.alike hK, nst_w hW hN⟩⟩ rfl rfl hl.1 rfl (lv_room (Nat.le_of_ble_eq_true rfl)) dX10_mean_68 ⟨Nat.zero_le _, Nat.zero_le _⟩) hS (fun q _ h => h) (fun q h => h) (fun r u t H1 locs ht hvm hw hB hz1 hk1 hS => ?_)
      subst hw
      obtain ⟨⟨hP, -, -⟩, hD⟩ := hB
      rw [ht] at hP
      clear hz1 hk1 ht hvm; generalize H1 = H at hP hS ⊢
      skip
      have E9 : s_X11_mean F M  = ((s_X11_meets F M 4).1, ((s_X11_meets F M 4).2.1, (s_X11_meets F M 4).2.2)) := by unfold s_X11_mean; rw [if_pos c2]
      exact W.iret (v := (s_X11_meets F M 4).1) hx hb hr (fun t ht hW => ⟨⟨(s_X11_meets F M 4).1, u, rfl, by rw [E9], by rw [E9]; exact ⟨⟨by rw [ht]; exact hP, va_K.moved hW.alike hK, nst_w hW hN⟩, hD⟩⟩, hS.F ht⟩) hS.2.2 dX10_mean_71
