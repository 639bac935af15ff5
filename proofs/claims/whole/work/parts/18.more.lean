abbrev rm_J6_bitCount_0f7a4 : Room := { frames := 0, cells := 0, slots := 0, locals := 0 }
set_option maxRecDepth 100000 in
set_option maxHeartbeats 4000000 in
theorem c_J6_bitCount_0f7a4 (l : Launch) (D : va_G) (cI cZ : ClassId) (z : Nat) (hz : z < 32) : CtI l yJ6_bitCount_0f7a4 wsJ6_bitCount_0f7a4 rm_J6_bitCount_0f7a4 D cI cZ [.int (nI z)] [] (fun r (_ : Unit) => r = nI (pop5 z)) (fun (_ : Unit) => []) 0 0 := by
  refine g_startI (ret := (some .int)) (own := RJ6) (lv0 := [(0, .int (nI z))]) (by decide) rfl rfl (Nat.le_of_ble_eq_true rfl) rfl ?_
  intro p e s m args below meth cd A Q hin hr hQ hC
  have w1 := hC.1.2.2.2.2 (.constant "java/lang/Integer" 265 1431655765) (List.mem_of_getElem? (i := 1) rfl)
  have w2 := hC.1.2.2.2.2 (.constant "java/lang/Integer" 266 858993459) (List.mem_of_getElem? (i := 2) rfl)
  have w3 := hC.1.2.2.2.2 (.constant "java/lang/Integer" 267 252645135) (List.mem_of_getElem? (i := 3) rfl)
  refine g_iload_n hC 0 dJ6_bitCount_0f7a4_0 rfl rfl ?_
  refine g_iload_n hC 0 dJ6_bitCount_0f7a4_1 rfl rfl ?_
  refine g_iconst (v := nI 1) hC dJ6_bitCount_0f7a4_2 rfl ?_
  refine g_iushr hC dJ6_bitCount_0f7a4_3 rfl ?_
  refine g_ldcw (v := 1431655765) hC w1 dJ6_bitCount_0f7a4_4 ?_
  refine g_iand hC dJ6_bitCount_0f7a4_7 ?_
  refine g_isub hC dJ6_bitCount_0f7a4_8 ?_
  refine g_istore_n (lv' := [(0, .int ((nI z) - ((((nI z).toUInt32 >>> ((nI 1).toUInt32 &&& Int32.toUInt32 31)).toInt32) &&& 1431655765)))]) hC [0] dJ6_bitCount_0f7a4_9 rfl (by decide) rfl ?_
  refine g_iload_n hC 0 dJ6_bitCount_0f7a4_10 rfl rfl ?_
  refine g_ldcw (v := 858993459) hC w2 dJ6_bitCount_0f7a4_11 ?_
  refine g_iand hC dJ6_bitCount_0f7a4_14 ?_
  refine g_iload_n hC 0 dJ6_bitCount_0f7a4_15 rfl rfl ?_
  refine g_iconst (v := nI 2) hC dJ6_bitCount_0f7a4_16 rfl ?_
  refine g_iushr hC dJ6_bitCount_0f7a4_17 rfl ?_
  refine g_ldcw (v := 858993459) hC w2 dJ6_bitCount_0f7a4_18 ?_
  refine g_iand hC dJ6_bitCount_0f7a4_21 ?_
  refine g_iadd hC dJ6_bitCount_0f7a4_22 ?_
  refine g_istore_n (lv' := [(0, .int ((((nI z) - ((((nI z).toUInt32 >>> ((nI 1).toUInt32 &&& Int32.toUInt32 31)).toInt32) &&& 1431655765)) &&& 858993459) + (((((nI z) - ((((nI z).toUInt32 >>> ((nI 1).toUInt32 &&& Int32.toUInt32 31)).toInt32) &&& 1431655765)).toUInt32 >>> ((nI 2).toUInt32 &&& Int32.toUInt32 31)).toInt32) &&& 858993459)))]) hC [0] dJ6_bitCount_0f7a4_23 rfl (by decide) rfl ?_
  refine g_iload_n hC 0 dJ6_bitCount_0f7a4_24 rfl rfl ?_
  refine g_iload_n hC 0 dJ6_bitCount_0f7a4_25 rfl rfl ?_
  refine g_iconst (v := nI 4) hC dJ6_bitCount_0f7a4_26 rfl ?_
  refine g_iushr hC dJ6_bitCount_0f7a4_27 rfl ?_
  refine g_iadd hC dJ6_bitCount_0f7a4_28 ?_
  refine g_ldcw (v := 252645135) hC w3 dJ6_bitCount_0f7a4_29 ?_
  refine g_iand hC dJ6_bitCount_0f7a4_32 ?_
  refine g_istore_n (lv' := [(0, .int ((((((nI z) - ((((nI z).toUInt32 >>> ((nI 1).toUInt32 &&& Int32.toUInt32 31)).toInt32) &&& 1431655765)) &&& 858993459) + (((((nI z) - ((((nI z).toUInt32 >>> ((nI 1).toUInt32 &&& Int32.toUInt32 31)).toInt32) &&& 1431655765)).toUInt32 >>> ((nI 2).toUInt32 &&& Int32.toUInt32 31)).toInt32) &&& 858993459)) + ((((((nI z) - ((((nI z).toUInt32 >>> ((nI 1).toUInt32 &&& Int32.toUInt32 31)).toInt32) &&& 1431655765)) &&& 858993459) + (((((nI z) - ((((nI z).toUInt32 >>> ((nI 1).toUInt32 &&& Int32.toUInt32 31)).toInt32) &&& 1431655765)).toUInt32 >>> ((nI 2).toUInt32 &&& Int32.toUInt32 31)).toInt32) &&& 858993459)).toUInt32 >>> ((nI 4).toUInt32 &&& Int32.toUInt32 31)).toInt32)) &&& 252645135))]) hC [0] dJ6_bitCount_0f7a4_33 rfl (by decide) rfl ?_
  refine g_iload_n hC 0 dJ6_bitCount_0f7a4_34 rfl rfl ?_
  refine g_iload_n hC 0 dJ6_bitCount_0f7a4_35 rfl rfl ?_
  refine g_bipush (v := nI 8) hC dJ6_bitCount_0f7a4_36 (by decide +kernel) ?_
  refine g_iushr hC dJ6_bitCount_0f7a4_38 rfl ?_
  refine g_iadd hC dJ6_bitCount_0f7a4_39 ?_
  refine g_istore_n (lv' := [(0, .int (((((((nI z) - ((((nI z).toUInt32 >>> ((nI 1).toUInt32 &&& Int32.toUInt32 31)).toInt32) &&& 1431655765)) &&& 858993459) + (((((nI z) - ((((nI z).toUInt32 >>> ((nI 1).toUInt32 &&& Int32.toUInt32 31)).toInt32) &&& 1431655765)).toUInt32 >>> ((nI 2).toUInt32 &&& Int32.toUInt32 31)).toInt32) &&& 858993459)) + ((((((nI z) - ((((nI z).toUInt32 >>> ((nI 1).toUInt32 &&& Int32.toUInt32 31)).toInt32) &&& 1431655765)) &&& 858993459) + (((((nI z) - ((((nI z).toUInt32 >>> ((nI 1).toUInt32 &&& Int32.toUInt32 31)).toInt32) &&& 1431655765)).toUInt32 >>> ((nI 2).toUInt32 &&& Int32.toUInt32 31)).toInt32) &&& 858993459)).toUInt32 >>> ((nI 4).toUInt32 &&& Int32.toUInt32 31)).toInt32)) &&& 252645135) + ((((((((nI z) - ((((nI z).toUInt32 >>> ((nI 1).toUInt32 &&& Int32.toUInt32 31)).toInt32) &&& 1431655765)) &&& 858993459) + (((((nI z) - ((((nI z).toUInt32 >>> ((nI 1).toUInt32 &&& Int32.toUInt32 31)).toInt32) &&& 1431655765)).toUInt32 >>> ((nI 2).toUInt32 &&& Int32.toUInt32 31)).toInt32) &&& 858993459)) + ((((((nI z) - ((((nI z).toUInt32 >>> ((nI 1).toUInt32 &&& Int32.toUInt32 31)).toInt32) &&& 1431655765)) &&& 858993459) + (((((nI z) - ((((nI z).toUInt32 >>> ((nI 1).toUInt32 &&& Int32.toUInt32 31)).toInt32) &&& 1431655765)).toUInt32 >>> ((nI 2).toUInt32 &&& Int32.toUInt32 31)).toInt32) &&& 858993459)).toUInt32 >>> ((nI 4).toUInt32 &&& Int32.toUInt32 31)).toInt32)) &&& 252645135).toUInt32 >>> ((nI 8).toUInt32 &&& Int32.toUInt32 31)).toInt32)))]) hC [0] dJ6_bitCount_0f7a4_40 rfl (by decide) rfl ?_
  refine g_iload_n hC 0 dJ6_bitCount_0f7a4_41 rfl rfl ?_
  refine g_iload_n hC 0 dJ6_bitCount_0f7a4_42 rfl rfl ?_
  refine g_bipush (v := nI 16) hC dJ6_bitCount_0f7a4_43 (by decide +kernel) ?_
  refine g_iushr hC dJ6_bitCount_0f7a4_45 rfl ?_
  refine g_iadd hC dJ6_bitCount_0f7a4_46 ?_
  refine g_istore_n (lv' := [(0, .int ((((((((nI z) - ((((nI z).toUInt32 >>> ((nI 1).toUInt32 &&& Int32.toUInt32 31)).toInt32) &&& 1431655765)) &&& 858993459) + (((((nI z) - ((((nI z).toUInt32 >>> ((nI 1).toUInt32 &&& Int32.toUInt32 31)).toInt32) &&& 1431655765)).toUInt32 >>> ((nI 2).toUInt32 &&& Int32.toUInt32 31)).toInt32) &&& 858993459)) + ((((((nI z) - ((((nI z).toUInt32 >>> ((nI 1).toUInt32 &&& Int32.toUInt32 31)).toInt32) &&& 1431655765)) &&& 858993459) + (((((nI z) - ((((nI z).toUInt32 >>> ((nI 1).toUInt32 &&& Int32.toUInt32 31)).toInt32) &&& 1431655765)).toUInt32 >>> ((nI 2).toUInt32 &&& Int32.toUInt32 31)).toInt32) &&& 858993459)).toUInt32 >>> ((nI 4).toUInt32 &&& Int32.toUInt32 31)).toInt32)) &&& 252645135) + ((((((((nI z) - ((((nI z).toUInt32 >>> ((nI 1).toUInt32 &&& Int32.toUInt32 31)).toInt32) &&& 1431655765)) &&& 858993459) + (((((nI z) - ((((nI z).toUInt32 >>> ((nI 1).toUInt32 &&& Int32.toUInt32 31)).toInt32) &&& 1431655765)).toUInt32 >>> ((nI 2).toUInt32 &&& Int32.toUInt32 31)).toInt32) &&& 858993459)) + ((((((nI z) - ((((nI z).toUInt32 >>> ((nI 1).toUInt32 &&& Int32.toUInt32 31)).toInt32) &&& 1431655765)) &&& 858993459) + (((((nI z) - ((((nI z).toUInt32 >>> ((nI 1).toUInt32 &&& Int32.toUInt32 31)).toInt32) &&& 1431655765)).toUInt32 >>> ((nI 2).toUInt32 &&& Int32.toUInt32 31)).toInt32) &&& 858993459)).toUInt32 >>> ((nI 4).toUInt32 &&& Int32.toUInt32 31)).toInt32)) &&& 252645135).toUInt32 >>> ((nI 8).toUInt32 &&& Int32.toUInt32 31)).toInt32)) + (((((((((nI z) - ((((nI z).toUInt32 >>> ((nI 1).toUInt32 &&& Int32.toUInt32 31)).toInt32) &&& 1431655765)) &&& 858993459) + (((((nI z) - ((((nI z).toUInt32 >>> ((nI 1).toUInt32 &&& Int32.toUInt32 31)).toInt32) &&& 1431655765)).toUInt32 >>> ((nI 2).toUInt32 &&& Int32.toUInt32 31)).toInt32) &&& 858993459)) + ((((((nI z) - ((((nI z).toUInt32 >>> ((nI 1).toUInt32 &&& Int32.toUInt32 31)).toInt32) &&& 1431655765)) &&& 858993459) + (((((nI z) - ((((nI z).toUInt32 >>> ((nI 1).toUInt32 &&& Int32.toUInt32 31)).toInt32) &&& 1431655765)).toUInt32 >>> ((nI 2).toUInt32 &&& Int32.toUInt32 31)).toInt32) &&& 858993459)).toUInt32 >>> ((nI 4).toUInt32 &&& Int32.toUInt32 31)).toInt32)) &&& 252645135) + ((((((((nI z) - ((((nI z).toUInt32 >>> ((nI 1).toUInt32 &&& Int32.toUInt32 31)).toInt32) &&& 1431655765)) &&& 858993459) + (((((nI z) - ((((nI z).toUInt32 >>> ((nI 1).toUInt32 &&& Int32.toUInt32 31)).toInt32) &&& 1431655765)).toUInt32 >>> ((nI 2).toUInt32 &&& Int32.toUInt32 31)).toInt32) &&& 858993459)) + ((((((nI z) - ((((nI z).toUInt32 >>> ((nI 1).toUInt32 &&& Int32.toUInt32 31)).toInt32) &&& 1431655765)) &&& 858993459) + (((((nI z) - ((((nI z).toUInt32 >>> ((nI 1).toUInt32 &&& Int32.toUInt32 31)).toInt32) &&& 1431655765)).toUInt32 >>> ((nI 2).toUInt32 &&& Int32.toUInt32 31)).toInt32) &&& 858993459)).toUInt32 >>> ((nI 4).toUInt32 &&& Int32.toUInt32 31)).toInt32)) &&& 252645135).toUInt32 >>> ((nI 8).toUInt32 &&& Int32.toUInt32 31)).toInt32)).toUInt32 >>> ((nI 16).toUInt32 &&& Int32.toUInt32 31)).toInt32)))]) hC [0] dJ6_bitCount_0f7a4_47 rfl (by decide) rfl ?_
  refine g_iload_n hC 0 dJ6_bitCount_0f7a4_48 rfl rfl ?_
  refine g_bipush (v := nI 63) hC dJ6_bitCount_0f7a4_49 (by decide +kernel) ?_
  refine g_iand hC dJ6_bitCount_0f7a4_51 ?_
  subst hQ
  refine g_iret (v := ((((((((nI z) - ((((nI z).toUInt32 >>> ((nI 1).toUInt32 &&& Int32.toUInt32 31)).toInt32) &&& 1431655765)) &&& 858993459) + (((((nI z) - ((((nI z).toUInt32 >>> ((nI 1).toUInt32 &&& Int32.toUInt32 31)).toInt32) &&& 1431655765)).toUInt32 >>> ((nI 2).toUInt32 &&& Int32.toUInt32 31)).toInt32) &&& 858993459)) + ((((((nI z) - ((((nI z).toUInt32 >>> ((nI 1).toUInt32 &&& Int32.toUInt32 31)).toInt32) &&& 1431655765)) &&& 858993459) + (((((nI z) - ((((nI z).toUInt32 >>> ((nI 1).toUInt32 &&& Int32.toUInt32 31)).toInt32) &&& 1431655765)).toUInt32 >>> ((nI 2).toUInt32 &&& Int32.toUInt32 31)).toInt32) &&& 858993459)).toUInt32 >>> ((nI 4).toUInt32 &&& Int32.toUInt32 31)).toInt32)) &&& 252645135) + ((((((((nI z) - ((((nI z).toUInt32 >>> ((nI 1).toUInt32 &&& Int32.toUInt32 31)).toInt32) &&& 1431655765)) &&& 858993459) + (((((nI z) - ((((nI z).toUInt32 >>> ((nI 1).toUInt32 &&& Int32.toUInt32 31)).toInt32) &&& 1431655765)).toUInt32 >>> ((nI 2).toUInt32 &&& Int32.toUInt32 31)).toInt32) &&& 858993459)) + ((((((nI z) - ((((nI z).toUInt32 >>> ((nI 1).toUInt32 &&& Int32.toUInt32 31)).toInt32) &&& 1431655765)) &&& 858993459) + (((((nI z) - ((((nI z).toUInt32 >>> ((nI 1).toUInt32 &&& Int32.toUInt32 31)).toInt32) &&& 1431655765)).toUInt32 >>> ((nI 2).toUInt32 &&& Int32.toUInt32 31)).toInt32) &&& 858993459)).toUInt32 >>> ((nI 4).toUInt32 &&& Int32.toUInt32 31)).toInt32)) &&& 252645135).toUInt32 >>> ((nI 8).toUInt32 &&& Int32.toUInt32 31)).toInt32)) + (((((((((nI z) - ((((nI z).toUInt32 >>> ((nI 1).toUInt32 &&& Int32.toUInt32 31)).toInt32) &&& 1431655765)) &&& 858993459) + (((((nI z) - ((((nI z).toUInt32 >>> ((nI 1).toUInt32 &&& Int32.toUInt32 31)).toInt32) &&& 1431655765)).toUInt32 >>> ((nI 2).toUInt32 &&& Int32.toUInt32 31)).toInt32) &&& 858993459)) + ((((((nI z) - ((((nI z).toUInt32 >>> ((nI 1).toUInt32 &&& Int32.toUInt32 31)).toInt32) &&& 1431655765)) &&& 858993459) + (((((nI z) - ((((nI z).toUInt32 >>> ((nI 1).toUInt32 &&& Int32.toUInt32 31)).toInt32) &&& 1431655765)).toUInt32 >>> ((nI 2).toUInt32 &&& Int32.toUInt32 31)).toInt32) &&& 858993459)).toUInt32 >>> ((nI 4).toUInt32 &&& Int32.toUInt32 31)).toInt32)) &&& 252645135) + ((((((((nI z) - ((((nI z).toUInt32 >>> ((nI 1).toUInt32 &&& Int32.toUInt32 31)).toInt32) &&& 1431655765)) &&& 858993459) + (((((nI z) - ((((nI z).toUInt32 >>> ((nI 1).toUInt32 &&& Int32.toUInt32 31)).toInt32) &&& 1431655765)).toUInt32 >>> ((nI 2).toUInt32 &&& Int32.toUInt32 31)).toInt32) &&& 858993459)) + ((((((nI z) - ((((nI z).toUInt32 >>> ((nI 1).toUInt32 &&& Int32.toUInt32 31)).toInt32) &&& 1431655765)) &&& 858993459) + (((((nI z) - ((((nI z).toUInt32 >>> ((nI 1).toUInt32 &&& Int32.toUInt32 31)).toInt32) &&& 1431655765)).toUInt32 >>> ((nI 2).toUInt32 &&& Int32.toUInt32 31)).toInt32) &&& 858993459)).toUInt32 >>> ((nI 4).toUInt32 &&& Int32.toUInt32 31)).toInt32)) &&& 252645135).toUInt32 >>> ((nI 8).toUInt32 &&& Int32.toUInt32 31)).toInt32)).toUInt32 >>> ((nI 16).toUInt32 &&& Int32.toUInt32 31)).toInt32)) &&& (nI 63)) hC () hr ?_ rfl dJ6_bitCount_0f7a4_52
  clear hC hr hin
  revert hz; revert z; decide +kernel

abbrev rm_J6_bitCount_0f7a4_no : Room := { frames := 0, cells := 0, slots := 0, locals := 0 }
set_option maxRecDepth 100000 in
set_option maxHeartbeats 4000000 in
theorem c_J6_bitCount_0f7a4_no (l : Launch) (D : va_G) (cI cZ : ClassId) : CtI l yJ6_bitCount_0f7a4 wsJ6_bitCount_0f7a4 rm_J6_bitCount_0f7a4_no D cI cZ [.int (-9 : Int32)] [] (fun r (_ : Unit) => r = nI 31) (fun (_ : Unit) => []) 0 0 := by
  refine g_startI (ret := (some .int)) (own := RJ6) (lv0 := [(0, .int (-9 : Int32))]) (by decide) rfl rfl (Nat.le_of_ble_eq_true rfl) rfl ?_
  intro p e s m args below meth cd A Q hin hr hQ hC
  have w1 := hC.1.2.2.2.2 (.constant "java/lang/Integer" 265 1431655765) (List.mem_of_getElem? (i := 1) rfl)
  have w2 := hC.1.2.2.2.2 (.constant "java/lang/Integer" 266 858993459) (List.mem_of_getElem? (i := 2) rfl)
  have w3 := hC.1.2.2.2.2 (.constant "java/lang/Integer" 267 252645135) (List.mem_of_getElem? (i := 3) rfl)
  refine g_iload_n hC 0 dJ6_bitCount_0f7a4_0 rfl rfl ?_
  refine g_iload_n hC 0 dJ6_bitCount_0f7a4_1 rfl rfl ?_
  refine g_iconst (v := nI 1) hC dJ6_bitCount_0f7a4_2 rfl ?_
  refine g_iushr hC dJ6_bitCount_0f7a4_3 rfl ?_
  refine g_ldcw (v := 1431655765) hC w1 dJ6_bitCount_0f7a4_4 ?_
  refine g_iand hC dJ6_bitCount_0f7a4_7 ?_
  refine g_isub hC dJ6_bitCount_0f7a4_8 ?_
  refine g_istore_n (lv' := [(0, .int ((-9 : Int32) - ((((-9 : Int32).toUInt32 >>> ((nI 1).toUInt32 &&& Int32.toUInt32 31)).toInt32) &&& 1431655765)))]) hC [0] dJ6_bitCount_0f7a4_9 rfl (by decide) rfl ?_
  refine g_iload_n hC 0 dJ6_bitCount_0f7a4_10 rfl rfl ?_
  refine g_ldcw (v := 858993459) hC w2 dJ6_bitCount_0f7a4_11 ?_
  refine g_iand hC dJ6_bitCount_0f7a4_14 ?_
  refine g_iload_n hC 0 dJ6_bitCount_0f7a4_15 rfl rfl ?_
  refine g_iconst (v := nI 2) hC dJ6_bitCount_0f7a4_16 rfl ?_
  refine g_iushr hC dJ6_bitCount_0f7a4_17 rfl ?_
  refine g_ldcw (v := 858993459) hC w2 dJ6_bitCount_0f7a4_18 ?_
  refine g_iand hC dJ6_bitCount_0f7a4_21 ?_
  refine g_iadd hC dJ6_bitCount_0f7a4_22 ?_
  refine g_istore_n (lv' := [(0, .int ((((-9 : Int32) - ((((-9 : Int32).toUInt32 >>> ((nI 1).toUInt32 &&& Int32.toUInt32 31)).toInt32) &&& 1431655765)) &&& 858993459) + (((((-9 : Int32) - ((((-9 : Int32).toUInt32 >>> ((nI 1).toUInt32 &&& Int32.toUInt32 31)).toInt32) &&& 1431655765)).toUInt32 >>> ((nI 2).toUInt32 &&& Int32.toUInt32 31)).toInt32) &&& 858993459)))]) hC [0] dJ6_bitCount_0f7a4_23 rfl (by decide) rfl ?_
  refine g_iload_n hC 0 dJ6_bitCount_0f7a4_24 rfl rfl ?_
  refine g_iload_n hC 0 dJ6_bitCount_0f7a4_25 rfl rfl ?_
  refine g_iconst (v := nI 4) hC dJ6_bitCount_0f7a4_26 rfl ?_
  refine g_iushr hC dJ6_bitCount_0f7a4_27 rfl ?_
  refine g_iadd hC dJ6_bitCount_0f7a4_28 ?_
  refine g_ldcw (v := 252645135) hC w3 dJ6_bitCount_0f7a4_29 ?_
  refine g_iand hC dJ6_bitCount_0f7a4_32 ?_
  refine g_istore_n (lv' := [(0, .int ((((((-9 : Int32) - ((((-9 : Int32).toUInt32 >>> ((nI 1).toUInt32 &&& Int32.toUInt32 31)).toInt32) &&& 1431655765)) &&& 858993459) + (((((-9 : Int32) - ((((-9 : Int32).toUInt32 >>> ((nI 1).toUInt32 &&& Int32.toUInt32 31)).toInt32) &&& 1431655765)).toUInt32 >>> ((nI 2).toUInt32 &&& Int32.toUInt32 31)).toInt32) &&& 858993459)) + ((((((-9 : Int32) - ((((-9 : Int32).toUInt32 >>> ((nI 1).toUInt32 &&& Int32.toUInt32 31)).toInt32) &&& 1431655765)) &&& 858993459) + (((((-9 : Int32) - ((((-9 : Int32).toUInt32 >>> ((nI 1).toUInt32 &&& Int32.toUInt32 31)).toInt32) &&& 1431655765)).toUInt32 >>> ((nI 2).toUInt32 &&& Int32.toUInt32 31)).toInt32) &&& 858993459)).toUInt32 >>> ((nI 4).toUInt32 &&& Int32.toUInt32 31)).toInt32)) &&& 252645135))]) hC [0] dJ6_bitCount_0f7a4_33 rfl (by decide) rfl ?_
  refine g_iload_n hC 0 dJ6_bitCount_0f7a4_34 rfl rfl ?_
  refine g_iload_n hC 0 dJ6_bitCount_0f7a4_35 rfl rfl ?_
  refine g_bipush (v := nI 8) hC dJ6_bitCount_0f7a4_36 (by decide +kernel) ?_
  refine g_iushr hC dJ6_bitCount_0f7a4_38 rfl ?_
  refine g_iadd hC dJ6_bitCount_0f7a4_39 ?_
  refine g_istore_n (lv' := [(0, .int (((((((-9 : Int32) - ((((-9 : Int32).toUInt32 >>> ((nI 1).toUInt32 &&& Int32.toUInt32 31)).toInt32) &&& 1431655765)) &&& 858993459) + (((((-9 : Int32) - ((((-9 : Int32).toUInt32 >>> ((nI 1).toUInt32 &&& Int32.toUInt32 31)).toInt32) &&& 1431655765)).toUInt32 >>> ((nI 2).toUInt32 &&& Int32.toUInt32 31)).toInt32) &&& 858993459)) + ((((((-9 : Int32) - ((((-9 : Int32).toUInt32 >>> ((nI 1).toUInt32 &&& Int32.toUInt32 31)).toInt32) &&& 1431655765)) &&& 858993459) + (((((-9 : Int32) - ((((-9 : Int32).toUInt32 >>> ((nI 1).toUInt32 &&& Int32.toUInt32 31)).toInt32) &&& 1431655765)).toUInt32 >>> ((nI 2).toUInt32 &&& Int32.toUInt32 31)).toInt32) &&& 858993459)).toUInt32 >>> ((nI 4).toUInt32 &&& Int32.toUInt32 31)).toInt32)) &&& 252645135) + ((((((((-9 : Int32) - ((((-9 : Int32).toUInt32 >>> ((nI 1).toUInt32 &&& Int32.toUInt32 31)).toInt32) &&& 1431655765)) &&& 858993459) + (((((-9 : Int32) - ((((-9 : Int32).toUInt32 >>> ((nI 1).toUInt32 &&& Int32.toUInt32 31)).toInt32) &&& 1431655765)).toUInt32 >>> ((nI 2).toUInt32 &&& Int32.toUInt32 31)).toInt32) &&& 858993459)) + ((((((-9 : Int32) - ((((-9 : Int32).toUInt32 >>> ((nI 1).toUInt32 &&& Int32.toUInt32 31)).toInt32) &&& 1431655765)) &&& 858993459) + (((((-9 : Int32) - ((((-9 : Int32).toUInt32 >>> ((nI 1).toUInt32 &&& Int32.toUInt32 31)).toInt32) &&& 1431655765)).toUInt32 >>> ((nI 2).toUInt32 &&& Int32.toUInt32 31)).toInt32) &&& 858993459)).toUInt32 >>> ((nI 4).toUInt32 &&& Int32.toUInt32 31)).toInt32)) &&& 252645135).toUInt32 >>> ((nI 8).toUInt32 &&& Int32.toUInt32 31)).toInt32)))]) hC [0] dJ6_bitCount_0f7a4_40 rfl (by decide) rfl ?_
  refine g_iload_n hC 0 dJ6_bitCount_0f7a4_41 rfl rfl ?_
  refine g_iload_n hC 0 dJ6_bitCount_0f7a4_42 rfl rfl ?_
  refine g_bipush (v := nI 16) hC dJ6_bitCount_0f7a4_43 (by decide +kernel) ?_
  refine g_iushr hC dJ6_bitCount_0f7a4_45 rfl ?_
  refine g_iadd hC dJ6_bitCount_0f7a4_46 ?_
  refine g_istore_n (lv' := [(0, .int ((((((((-9 : Int32) - ((((-9 : Int32).toUInt32 >>> ((nI 1).toUInt32 &&& Int32.toUInt32 31)).toInt32) &&& 1431655765)) &&& 858993459) + (((((-9 : Int32) - ((((-9 : Int32).toUInt32 >>> ((nI 1).toUInt32 &&& Int32.toUInt32 31)).toInt32) &&& 1431655765)).toUInt32 >>> ((nI 2).toUInt32 &&& Int32.toUInt32 31)).toInt32) &&& 858993459)) + ((((((-9 : Int32) - ((((-9 : Int32).toUInt32 >>> ((nI 1).toUInt32 &&& Int32.toUInt32 31)).toInt32) &&& 1431655765)) &&& 858993459) + (((((-9 : Int32) - ((((-9 : Int32).toUInt32 >>> ((nI 1).toUInt32 &&& Int32.toUInt32 31)).toInt32) &&& 1431655765)).toUInt32 >>> ((nI 2).toUInt32 &&& Int32.toUInt32 31)).toInt32) &&& 858993459)).toUInt32 >>> ((nI 4).toUInt32 &&& Int32.toUInt32 31)).toInt32)) &&& 252645135) + ((((((((-9 : Int32) - ((((-9 : Int32).toUInt32 >>> ((nI 1).toUInt32 &&& Int32.toUInt32 31)).toInt32) &&& 1431655765)) &&& 858993459) + (((((-9 : Int32) - ((((-9 : Int32).toUInt32 >>> ((nI 1).toUInt32 &&& Int32.toUInt32 31)).toInt32) &&& 1431655765)).toUInt32 >>> ((nI 2).toUInt32 &&& Int32.toUInt32 31)).toInt32) &&& 858993459)) + ((((((-9 : Int32) - ((((-9 : Int32).toUInt32 >>> ((nI 1).toUInt32 &&& Int32.toUInt32 31)).toInt32) &&& 1431655765)) &&& 858993459) + (((((-9 : Int32) - ((((-9 : Int32).toUInt32 >>> ((nI 1).toUInt32 &&& Int32.toUInt32 31)).toInt32) &&& 1431655765)).toUInt32 >>> ((nI 2).toUInt32 &&& Int32.toUInt32 31)).toInt32) &&& 858993459)).toUInt32 >>> ((nI 4).toUInt32 &&& Int32.toUInt32 31)).toInt32)) &&& 252645135).toUInt32 >>> ((nI 8).toUInt32 &&& Int32.toUInt32 31)).toInt32)) + (((((((((-9 : Int32) - ((((-9 : Int32).toUInt32 >>> ((nI 1).toUInt32 &&& Int32.toUInt32 31)).toInt32) &&& 1431655765)) &&& 858993459) + (((((-9 : Int32) - ((((-9 : Int32).toUInt32 >>> ((nI 1).toUInt32 &&& Int32.toUInt32 31)).toInt32) &&& 1431655765)).toUInt32 >>> ((nI 2).toUInt32 &&& Int32.toUInt32 31)).toInt32) &&& 858993459)) + ((((((-9 : Int32) - ((((-9 : Int32).toUInt32 >>> ((nI 1).toUInt32 &&& Int32.toUInt32 31)).toInt32) &&& 1431655765)) &&& 858993459) + (((((-9 : Int32) - ((((-9 : Int32).toUInt32 >>> ((nI 1).toUInt32 &&& Int32.toUInt32 31)).toInt32) &&& 1431655765)).toUInt32 >>> ((nI 2).toUInt32 &&& Int32.toUInt32 31)).toInt32) &&& 858993459)).toUInt32 >>> ((nI 4).toUInt32 &&& Int32.toUInt32 31)).toInt32)) &&& 252645135) + ((((((((-9 : Int32) - ((((-9 : Int32).toUInt32 >>> ((nI 1).toUInt32 &&& Int32.toUInt32 31)).toInt32) &&& 1431655765)) &&& 858993459) + (((((-9 : Int32) - ((((-9 : Int32).toUInt32 >>> ((nI 1).toUInt32 &&& Int32.toUInt32 31)).toInt32) &&& 1431655765)).toUInt32 >>> ((nI 2).toUInt32 &&& Int32.toUInt32 31)).toInt32) &&& 858993459)) + ((((((-9 : Int32) - ((((-9 : Int32).toUInt32 >>> ((nI 1).toUInt32 &&& Int32.toUInt32 31)).toInt32) &&& 1431655765)) &&& 858993459) + (((((-9 : Int32) - ((((-9 : Int32).toUInt32 >>> ((nI 1).toUInt32 &&& Int32.toUInt32 31)).toInt32) &&& 1431655765)).toUInt32 >>> ((nI 2).toUInt32 &&& Int32.toUInt32 31)).toInt32) &&& 858993459)).toUInt32 >>> ((nI 4).toUInt32 &&& Int32.toUInt32 31)).toInt32)) &&& 252645135).toUInt32 >>> ((nI 8).toUInt32 &&& Int32.toUInt32 31)).toInt32)).toUInt32 >>> ((nI 16).toUInt32 &&& Int32.toUInt32 31)).toInt32)))]) hC [0] dJ6_bitCount_0f7a4_47 rfl (by decide) rfl ?_
  refine g_iload_n hC 0 dJ6_bitCount_0f7a4_48 rfl rfl ?_
  refine g_bipush (v := nI 63) hC dJ6_bitCount_0f7a4_49 (by decide +kernel) ?_
  refine g_iand hC dJ6_bitCount_0f7a4_51 ?_
  subst hQ
  refine g_iret (v := ((((((((-9 : Int32) - ((((-9 : Int32).toUInt32 >>> ((nI 1).toUInt32 &&& Int32.toUInt32 31)).toInt32) &&& 1431655765)) &&& 858993459) + (((((-9 : Int32) - ((((-9 : Int32).toUInt32 >>> ((nI 1).toUInt32 &&& Int32.toUInt32 31)).toInt32) &&& 1431655765)).toUInt32 >>> ((nI 2).toUInt32 &&& Int32.toUInt32 31)).toInt32) &&& 858993459)) + ((((((-9 : Int32) - ((((-9 : Int32).toUInt32 >>> ((nI 1).toUInt32 &&& Int32.toUInt32 31)).toInt32) &&& 1431655765)) &&& 858993459) + (((((-9 : Int32) - ((((-9 : Int32).toUInt32 >>> ((nI 1).toUInt32 &&& Int32.toUInt32 31)).toInt32) &&& 1431655765)).toUInt32 >>> ((nI 2).toUInt32 &&& Int32.toUInt32 31)).toInt32) &&& 858993459)).toUInt32 >>> ((nI 4).toUInt32 &&& Int32.toUInt32 31)).toInt32)) &&& 252645135) + ((((((((-9 : Int32) - ((((-9 : Int32).toUInt32 >>> ((nI 1).toUInt32 &&& Int32.toUInt32 31)).toInt32) &&& 1431655765)) &&& 858993459) + (((((-9 : Int32) - ((((-9 : Int32).toUInt32 >>> ((nI 1).toUInt32 &&& Int32.toUInt32 31)).toInt32) &&& 1431655765)).toUInt32 >>> ((nI 2).toUInt32 &&& Int32.toUInt32 31)).toInt32) &&& 858993459)) + ((((((-9 : Int32) - ((((-9 : Int32).toUInt32 >>> ((nI 1).toUInt32 &&& Int32.toUInt32 31)).toInt32) &&& 1431655765)) &&& 858993459) + (((((-9 : Int32) - ((((-9 : Int32).toUInt32 >>> ((nI 1).toUInt32 &&& Int32.toUInt32 31)).toInt32) &&& 1431655765)).toUInt32 >>> ((nI 2).toUInt32 &&& Int32.toUInt32 31)).toInt32) &&& 858993459)).toUInt32 >>> ((nI 4).toUInt32 &&& Int32.toUInt32 31)).toInt32)) &&& 252645135).toUInt32 >>> ((nI 8).toUInt32 &&& Int32.toUInt32 31)).toInt32)) + (((((((((-9 : Int32) - ((((-9 : Int32).toUInt32 >>> ((nI 1).toUInt32 &&& Int32.toUInt32 31)).toInt32) &&& 1431655765)) &&& 858993459) + (((((-9 : Int32) - ((((-9 : Int32).toUInt32 >>> ((nI 1).toUInt32 &&& Int32.toUInt32 31)).toInt32) &&& 1431655765)).toUInt32 >>> ((nI 2).toUInt32 &&& Int32.toUInt32 31)).toInt32) &&& 858993459)) + ((((((-9 : Int32) - ((((-9 : Int32).toUInt32 >>> ((nI 1).toUInt32 &&& Int32.toUInt32 31)).toInt32) &&& 1431655765)) &&& 858993459) + (((((-9 : Int32) - ((((-9 : Int32).toUInt32 >>> ((nI 1).toUInt32 &&& Int32.toUInt32 31)).toInt32) &&& 1431655765)).toUInt32 >>> ((nI 2).toUInt32 &&& Int32.toUInt32 31)).toInt32) &&& 858993459)).toUInt32 >>> ((nI 4).toUInt32 &&& Int32.toUInt32 31)).toInt32)) &&& 252645135) + ((((((((-9 : Int32) - ((((-9 : Int32).toUInt32 >>> ((nI 1).toUInt32 &&& Int32.toUInt32 31)).toInt32) &&& 1431655765)) &&& 858993459) + (((((-9 : Int32) - ((((-9 : Int32).toUInt32 >>> ((nI 1).toUInt32 &&& Int32.toUInt32 31)).toInt32) &&& 1431655765)).toUInt32 >>> ((nI 2).toUInt32 &&& Int32.toUInt32 31)).toInt32) &&& 858993459)) + ((((((-9 : Int32) - ((((-9 : Int32).toUInt32 >>> ((nI 1).toUInt32 &&& Int32.toUInt32 31)).toInt32) &&& 1431655765)) &&& 858993459) + (((((-9 : Int32) - ((((-9 : Int32).toUInt32 >>> ((nI 1).toUInt32 &&& Int32.toUInt32 31)).toInt32) &&& 1431655765)).toUInt32 >>> ((nI 2).toUInt32 &&& Int32.toUInt32 31)).toInt32) &&& 858993459)).toUInt32 >>> ((nI 4).toUInt32 &&& Int32.toUInt32 31)).toInt32)) &&& 252645135).toUInt32 >>> ((nI 8).toUInt32 &&& Int32.toUInt32 31)).toInt32)).toUInt32 >>> ((nI 16).toUInt32 &&& Int32.toUInt32 31)).toInt32)) &&& (nI 63)) hC () hr ?_ rfl dJ6_bitCount_0f7a4_52
  decide +kernel

abbrev rm_X5_deedsIfPledged : Room := { frames := 5, cells := 0, slots := 0, locals := 109 }
set_option maxRecDepth 100000 in
set_option maxHeartbeats 8000000 in
theorem c_X5_deedsIfPledged (l : Launch) (D : va_G) (cI cZ : ClassId) (xo : Nat) (xt : Nat) (xp : Nat) (xd : Nat) (xn : Nat) (xa : Nat) (xc : Nat) (xs : Nat) (xk : Nat) (ks : Int32) (ch : Int64) (xnc : Nat) (c : Nat → Int32) (xgc : Nat) (g : Nat → Int32) (r : Nat → Nat) (ti : Int32) (np : Nat) (nq : Nat) (nd : Nat) (P : Nat → Nat → Nat) (z : Nat) (k : Nat) (v : Int32) (hW : WFP np nq nd P) (hz : z < 32) (hk : k < np) : CtI l yX5_deedsIfPledged wsX5_deedsIfPledged rm_X5_deedsIfPledged D cI cZ [.ref xo, .int (nI z), .int (nI k), .int v] [(xo, o5 xt xp xd xn xa xc xs xk ks ch), (xn, .inr (3, [.ref xp, .ref xnc])), (xnc, .inl (cI, 20, .inl c)), (xa, .inr (3, [.ref xp, .ref xgc])), (xgc, .inl (cI, 20, .inl g)), (xp, o2 r ti np nq nd), (r 1, .inl (cI, 5, .inl (fun k_ => nI (P 0 k_)))), (r 2, .inl (cI, 5, .inl (fun k_ => nI (P 1 k_)))), (r 3, .inl (cI, 5, .inl (fun k_ => nI (P 2 k_)))), (r 4, .inl (cI, 5, .inl (fun k_ => nI (P 3 k_)))), (r 5, .inl (cI, 5, .inl (fun k_ => nI (P 4 k_)))), (r 6, .inl (cI, 5, .inl (fun k_ => nI (P 5 k_))))] (fun (r : Int32) (g2 : (Nat → Int32)) => r = oI (ifPl P nq nd c k z v)) (fun (g2 : (Nat → Int32)) => [(xo, o5 xt xp xd xn xa xc xs xk ks ch), (xn, .inr (3, [.ref xp, .ref xnc])), (xnc, .inl (cI, 20, .inl c)), (xa, .inr (3, [.ref xp, .ref xgc])), (xgc, .inl (cI, 20, .inl g2)), (xp, o2 r ti np nq nd), (r 1, .inl (cI, 5, .inl (fun k_ => nI (P 0 k_)))), (r 2, .inl (cI, 5, .inl (fun k_ => nI (P 1 k_)))), (r 3, .inl (cI, 5, .inl (fun k_ => nI (P 2 k_)))), (r 4, .inl (cI, 5, .inl (fun k_ => nI (P 3 k_)))), (r 5, .inl (cI, 5, .inl (fun k_ => nI (P 4 k_)))), (r 6, .inl (cI, 5, .inl (fun k_ => nI (P 5 k_))))]) 0 0 := by
  refine g_startI (ret := (some .int)) (own := RX5) (lv0 := [(0, .ref xo), (1, .int (nI z)), (2, .int (nI k)), (3, .int v)]) (by decide) rfl rfl (Nat.le_of_ble_eq_true rfl) rfl ?_
  intro p e s m args below meth cd A Q hin hr hQ hC
  have hcw5 : ∀ w ∈ wsX50, w ∈ wsX5_deedsIfPledged := fun _ h => List.mem_cons_of_mem _ (List.mem_append_left _ (List.mem_append_left _ (List.mem_append_right _ h)))
  have w1 := hC.1.2.2.2.2 (.fieldLink "PluckBroker" 19 "PluckBroker" "plan" "LPluckBroker$Plan;") (List.mem_of_getElem? (i := 1) rfl)
  have w2 := hC.1.2.2.2.2 (.fieldLink "PluckBroker" 35 "PluckBroker" "ahead" "LPluckBroker$State;") (List.mem_of_getElem? (i := 2) rfl)
  have w3 := hC.1.2.2.2.2 (.fieldLink "PluckBroker" 31 "PluckBroker" "now" "LPluckBroker$State;") (List.mem_of_getElem? (i := 3) rfl)
  obtain ⟨⟨hnp, hnq, hnd⟩, hq4, hd5⟩ := id hW
  have ho : ownB nq P (nI k) < 32 := bts_le hnq
  have hdo : deedsB nd P (nI k) < 32 := bts_le hnd
  refine g_iload_n hC 1 dX5_deedsIfPledged_0 rfl rfl ?_
  refine g_aload_n hC 0 dX5_deedsIfPledged_1 rfl rfl ?_
  refine g_get (C := RX5) (T := TX5) (N := 10) (ci := 5) (v := .ref xp) hC hcw5 0 rfl rfl 1 (by decide) w1 (fun _ h => h) rfl dX5_deedsIfPledged_2 ?_
  refine g_iload_n hC 2 dX5_deedsIfPledged_5 rfl rfl ?_
  refine g_callVip (As := [.int (nI k)]) (rest := [.int (nI z)]) hC (nI (ownB nq P (nI k))) (c_X2_qualitiesOf l D cI cZ xp r ti np nq nd P (nI k) hnq) (cwV 1 hC.1.2.2.2.2 gX5_deedsIfPledged_X2_qualitiesOf rfl rfl rfl dV_X2_qualitiesOf ⟨Nat.le_of_ble_eq_true rfl, Nat.le_of_ble_eq_true rfl⟩) rfl rfl rfl rfl (Nat.le_of_ble_eq_true rfl) dX5_deedsIfPledged_6 ⟨Nat.le_of_ble_eq_true rfl, Nat.le_of_ble_eq_true rfl⟩ [5, 6] rfl rfl ?_
  refine g_iconst (v := (-1)) hC dX5_deedsIfPledged_9 rfl ?_
  refine g_ixor hC dX5_deedsIfPledged_10 ?_
  refine g_iand hC dX5_deedsIfPledged_11 ?_
  refine g_if_eq hC 18 dX5_deedsIfPledged_12 (by decide) (fun h12t => ?_) (fun h12f => ?_)
  · have hsub := (subB_i z hz _ ho).mp h12t
    refine g_aload_n hC 0 dX5_deedsIfPledged_18 rfl rfl ?_
    refine g_get (C := RX5) (T := TX5) (N := 10) (ci := 5) (v := .ref xa) hC hcw5 0 rfl rfl 4 (by decide) w2 (fun _ h => h) rfl dX5_deedsIfPledged_19 ?_
    refine g_aload_n hC 0 dX5_deedsIfPledged_22 rfl rfl ?_
    refine g_get (C := RX5) (T := TX5) (N := 10) (ci := 5) (v := .ref xn) hC hcw5 0 rfl rfl 3 (by decide) w3 (fun _ h => h) rfl dX5_deedsIfPledged_23 ?_
    refine g_callVv (As := [.ref xn]) (rest := []) hC (c_X3_copy l D cI cZ xa xp xgc g xn xp xnc c) (cwV 1 hC.1.2.2.2.2 gX5_deedsIfPledged_X3_copy rfl rfl rfl dV_X3_copy ⟨Nat.le_of_ble_eq_true rfl, Nat.le_of_ble_eq_true rfl⟩) rfl rfl rfl rfl (Nat.le_of_ble_eq_true rfl) dX5_deedsIfPledged_26 ⟨Nat.le_of_ble_eq_true rfl, Nat.le_of_ble_eq_true rfl⟩ [3, 4, 1, 2] [0, 5, 6, 7, 8, 9, 10, 11] [0, 10, 11, 8, 9, 1, 2, 3, 4, 5, 6, 7] (fun (_ : Unit) => [(xo, o5 xt xp xd xn xa xc xs xk ks ch), (xn, .inr (3, [.ref xp, .ref xnc])), (xnc, .inl (cI, 20, .inl c)), (xa, .inr (3, [.ref xp, .ref xgc])), (xgc, .inl (cI, 20, .inl c)), (xp, o2 r ti np nq nd), (r 1, .inl (cI, 5, .inl (fun k_ => nI (P 0 k_)))), (r 2, .inl (cI, 5, .inl (fun k_ => nI (P 1 k_)))), (r 3, .inl (cI, 5, .inl (fun k_ => nI (P 2 k_)))), (r 4, .inl (cI, 5, .inl (fun k_ => nI (P 3 k_)))), (r 5, .inl (cI, 5, .inl (fun k_ => nI (P 4 k_)))), (r 6, .inl (cI, 5, .inl (fun k_ => nI (P 5 k_))))]) rfl rfl rfl (fun _ => rfl) (fun z26 hp26 => ?_)
    refine g_is (ws2 := [(xo, o5 xt xp xd xn xa xc xs xk ks ch), (xn, .inr (3, [.ref xp, .ref xnc])), (xnc, .inl (cI, 20, .inl c)), (xa, .inr (3, [.ref xp, .ref xgc])), (xgc, .inl (cI, 20, .inl c)), (xp, o2 r ti np nq nd), (r 1, .inl (cI, 5, .inl (fun k_ => nI (P 0 k_)))), (r 2, .inl (cI, 5, .inl (fun k_ => nI (P 1 k_)))), (r 3, .inl (cI, 5, .inl (fun k_ => nI (P 2 k_)))), (r 4, .inl (cI, 5, .inl (fun k_ => nI (P 3 k_)))), (r 5, .inl (cI, 5, .inl (fun k_ => nI (P 4 k_)))), (r 6, .inl (cI, 5, .inl (fun k_ => nI (P 5 k_))))]) (lv2 := [(0, .ref xo), (1, .int (nI z)), (2, .int (nI k)), (3, .int v)]) (st2 := []) rfl rfl rfl ?_
    refine g_iconst (v := nI 0) hC dX5_deedsIfPledged_29 rfl ?_
    refine g_istore (lv' := [(0, .ref xo), (1, .int (nI z)), (2, .int (nI k)), (3, .int v), (4, .int (nI 0))]) hC [1, 2, 3, 4, 0] dX5_deedsIfPledged_30 (by decide) rfl ?_
    have L32 : ∀ (n : Nat) (i : Nat) (gg : Nat → Int32), (i ≤ 5) → (some gg = plA P z c i) → 5 - i < n → G p l e rm_X5_deedsIfPledged s m args below meth cd D A 0 0 Q 5 [(xo, o5 xt xp xd xn xa xc xs xk ks ch), (xn, .inr (3, [.ref xp, .ref xnc])), (xnc, .inl (cI, 20, .inl c)), (xa, .inr (3, [.ref xp, .ref xgc])), (xgc, .inl (cI, 20, .inl gg)), (xp, o2 r ti np nq nd), (r 1, .inl (cI, 5, .inl (fun k_ => nI (P 0 k_)))), (r 2, .inl (cI, 5, .inl (fun k_ => nI (P 1 k_)))), (r 3, .inl (cI, 5, .inl (fun k_ => nI (P 2 k_)))), (r 4, .inl (cI, 5, .inl (fun k_ => nI (P 3 k_)))), (r 5, .inl (cI, 5, .inl (fun k_ => nI (P 4 k_)))), (r 6, .inl (cI, 5, .inl (fun k_ => nI (P 5 k_))))] 32 [(0, .ref xo), (1, .int (nI z)), (2, .int (nI k)), (3, .int v), (4, .int (nI i))] [] := by
      intro n
      induction n with
      | zero => intro i gg hi hg hn; exact absurd hn (Nat.not_lt_zero _)
      | succ n ih32 =>
        intro i gg hi hg hn
        refine g_iload hC 4 dX5_deedsIfPledged_32 rfl ?_
        refine g_iconst (v := nI 5) hC dX5_deedsIfPledged_34 rfl ?_
        refine g_icmp_ge_n (a := i) (b := 5) hC (by omega) (by omega) 69 dX5_deedsIfPledged_35 (by decide) (fun h35t => ?_) (fun h35f => ?_)
        · have ei : i = 5 := by omega
          rw [ei] at hg
          refine g_aload_n hC 0 dX5_deedsIfPledged_69 rfl rfl ?_
          refine g_get (C := RX5) (T := TX5) (N := 10) (ci := 5) (v := .ref xa) hC hcw5 0 rfl rfl 4 (by decide) w2 (fun _ h => h) rfl dX5_deedsIfPledged_70 ?_
          refine g_iload_n hC 2 dX5_deedsIfPledged_73 rfl rfl ?_
          refine g_callVip (As := [.int (nI k)]) (rest := []) hC (gg (2 + k)) (c_X3_purseOf l D cI cZ xa xp xgc gg k (by omega)) (cwV 1 hC.1.2.2.2.2 gX5_deedsIfPledged_X3_purseOf rfl rfl rfl dV_X3_purseOf ⟨Nat.le_of_ble_eq_true rfl, Nat.le_of_ble_eq_true rfl⟩) rfl rfl rfl rfl (Nat.le_of_ble_eq_true rfl) dX5_deedsIfPledged_74 ⟨Nat.le_of_ble_eq_true rfl, Nat.le_of_ble_eq_true rfl⟩ [3, 4] rfl rfl ?_
          refine g_iload_n hC 3 dX5_deedsIfPledged_77 rfl rfl ?_
          refine g_icmp_ge hC 84 dX5_deedsIfPledged_78 (by decide) (fun h78t => ?_) (fun h78f => ?_)
          · refine g_aload_n hC 0 dX5_deedsIfPledged_84 rfl rfl ?_
            refine g_get (C := RX5) (T := TX5) (N := 10) (ci := 5) (v := .ref xa) hC hcw5 0 rfl rfl 4 (by decide) w2 (fun _ h => h) rfl dX5_deedsIfPledged_85 ?_
            refine g_callVi (As := []) (rest := []) hC (c_X3_deedsInTheEnd l D cI cZ xa xp xgc gg r ti np nq nd P (by first | assumption | omega)) (cwV 0 hC.1.2.2.2.2 gX5_deedsIfPledged_X3_deedsInTheEnd rfl rfl rfl dV_X3_deedsInTheEnd ⟨Nat.le_of_ble_eq_true rfl, Nat.le_of_ble_eq_true rfl⟩) rfl rfl rfl rfl (Nat.le_of_ble_eq_true rfl) dX5_deedsIfPledged_88 ⟨Nat.le_of_ble_eq_true rfl, Nat.le_of_ble_eq_true rfl⟩ [3, 4, 5, 6, 7, 8, 9, 10, 11] [0, 1, 2] [0, 1, 2, 3, 4, 5, 6, 7, 8, 9, 10, 11] (fun (_ : Unit) => [(xo, o5 xt xp xd xn xa xc xs xk ks ch), (xn, .inr (3, [.ref xp, .ref xnc])), (xnc, .inl (cI, 20, .inl c)), (xa, .inr (3, [.ref xp, .ref xgc])), (xgc, .inl (cI, 20, .inl (passN P nq nd gg 20))), (xp, o2 r ti np nq nd), (r 1, .inl (cI, 5, .inl (fun k_ => nI (P 0 k_)))), (r 2, .inl (cI, 5, .inl (fun k_ => nI (P 1 k_)))), (r 3, .inl (cI, 5, .inl (fun k_ => nI (P 2 k_)))), (r 4, .inl (cI, 5, .inl (fun k_ => nI (P 3 k_)))), (r 5, .inl (cI, 5, .inl (fun k_ => nI (P 4 k_)))), (r 6, .inl (cI, 5, .inl (fun k_ => nI (P 5 k_))))]) rfl rfl rfl (fun _ => rfl) (fun r88 z88 hp88 => ?_)
            try dsimp only at hp88
            subst hp88
            refine g_is (ws2 := [(xo, o5 xt xp xd xn xa xc xs xk ks ch), (xn, .inr (3, [.ref xp, .ref xnc])), (xnc, .inl (cI, 20, .inl c)), (xa, .inr (3, [.ref xp, .ref xgc])), (xgc, .inl (cI, 20, .inl (passN P nq nd gg 20))), (xp, o2 r ti np nq nd), (r 1, .inl (cI, 5, .inl (fun k_ => nI (P 0 k_)))), (r 2, .inl (cI, 5, .inl (fun k_ => nI (P 1 k_)))), (r 3, .inl (cI, 5, .inl (fun k_ => nI (P 2 k_)))), (r 4, .inl (cI, 5, .inl (fun k_ => nI (P 3 k_)))), (r 5, .inl (cI, 5, .inl (fun k_ => nI (P 4 k_)))), (r 6, .inl (cI, 5, .inl (fun k_ => nI (P 5 k_))))]) (lv2 := [(0, .ref xo), (1, .int (nI z)), (2, .int (nI k)), (3, .int v), (4, .int (nI i))]) (st2 := [.int (nI (deedsThat nd (passN P nq nd gg 20) (nI 1)))]) rfl rfl rfl ?_
            refine g_aload_n hC 0 dX5_deedsIfPledged_91 rfl rfl ?_
            refine g_get (C := RX5) (T := TX5) (N := 10) (ci := 5) (v := .ref xp) hC hcw5 0 rfl rfl 1 (by decide) w1 (fun _ h => h) rfl dX5_deedsIfPledged_92 ?_
            refine g_iload_n hC 2 dX5_deedsIfPledged_95 rfl rfl ?_
            refine g_callVip (As := [.int (nI k)]) (rest := [.int (nI (deedsThat nd (passN P nq nd gg 20) (nI 1)))]) hC (nI (deedsB nd P (nI k))) (c_X2_deedsOf l D cI cZ xp r ti np nq nd P (nI k) (by first | assumption | omega)) (cwV 1 hC.1.2.2.2.2 gX5_deedsIfPledged_X2_deedsOf rfl rfl rfl dV_X2_deedsOf ⟨Nat.le_of_ble_eq_true rfl, Nat.le_of_ble_eq_true rfl⟩) rfl rfl rfl rfl (Nat.le_of_ble_eq_true rfl) dX5_deedsIfPledged_96 ⟨Nat.le_of_ble_eq_true rfl, Nat.le_of_ble_eq_true rfl⟩ [5, 6, 9] rfl rfl ?_
            refine g_iand_n (a := (deedsThat nd (passN P nq nd gg 20) (nI 1))) (b := (deedsB nd P (nI k))) hC dX5_deedsIfPledged_99 ?_
            have hpp : deedsThat nd (passN P nq nd gg 20) (nI 1) &&& deedsB nd P (nI k) < 32 := Nat.lt_of_le_of_lt Nat.and_le_right hdo
            refine g_callSip (As := [.int (nI ((deedsThat nd (passN P nq nd gg 20) (nI 1)) &&& (deedsB nd P (nI k))))]) (rest := []) hC (nI (pop5 ((deedsThat nd (passN P nq nd gg 20) (nI 1)) &&& (deedsB nd P (nI k))))) (c_J6_bitCount_0f7a4 l D cI cZ ((deedsThat nd (passN P nq nd gg 20) (nI 1)) &&& (deedsB nd P (nI k))) (by first | assumption | omega)) (va_cwS 1 hC.1.2.2.2.2 gX5_deedsIfPledged_J6_bitCount_0f7a4 rfl rfl rfl dS_J6_bitCount_0f7a4 ⟨Nat.le_of_ble_eq_true rfl, Nat.le_of_ble_eq_true rfl⟩) rfl rfl (Nat.le_of_ble_eq_true rfl) dX5_deedsIfPledged_100 ⟨Nat.le_of_ble_eq_true rfl, Nat.le_of_ble_eq_true rfl⟩ [] rfl rfl ?_
            subst hQ
            refine g_iret (v := nI (pop5 ((deedsThat nd (passN P nq nd gg 20) (nI 1)) &&& (deedsB nd P (nI k))))) hC (passN P nq nd gg 20) hr ?_ rfl dX5_deedsIfPledged_103
            rw [ifPl, if_pos hsub, ← hg]; show _ = oI (if v ≤ gg (2 + k) then _ else none); rw [if_pos h78t]; rfl
          refine g_bipush (v := (-9)) hC dX5_deedsIfPledged_81 (by decide +kernel) ?_
          subst hQ
          refine g_iret (v := -9) hC (gg) hr ?_ rfl dX5_deedsIfPledged_83
          rw [ifPl, if_pos hsub, ← hg]; show _ = oI (if v ≤ gg (2 + k) then _ else none); rw [if_neg h78f]; rfl
        refine g_iload_n hC 1 dX5_deedsIfPledged_38 rfl rfl ?_
        refine g_iload hC 4 dX5_deedsIfPledged_39 rfl ?_
        refine g_ishr_n (a := z) (b := i) hC (by omega) (by omega) dX5_deedsIfPledged_41 ?_
        refine g_iconst (v := nI 1) hC dX5_deedsIfPledged_42 rfl ?_
        refine g_iand_n (a := (z / 2 ^ i)) (b := 1) hC dX5_deedsIfPledged_43 ?_
        refine g_iconst (v := nI 1) hC dX5_deedsIfPledged_44 rfl ?_
        refine g_icmp_ne_n (a := ((z / 2 ^ i) &&& 1)) (b := 1) hC (by first | exact and1_lt _ | omega) (by first | exact and1_lt _ | omega) 63 dX5_deedsIfPledged_45 (by decide) (fun h45t => ?_) (fun h45f => ?_)
        · refine g_iinc (v := nI (i + 1)) (lv' := [(0, .ref xo), (1, .int (nI z)), (2, .int (nI k)), (3, .int v), (4, .int (nI (i + 1)))]) hC 4 [1, 2, 3, 4, 0] dX5_deedsIfPledged_63 rfl (nI_add _ 1) (by decide) rfl ?_
          refine g_goto hC 32 dX5_deedsIfPledged_66 (by decide) ?_
          refine ih32 (i + 1) gg ?_ ?_ ?_
          · omega
          · have ep : plA P z c (i + 1) = (if hasB z i then (if canP P gg i then some (pledgeF P gg i) else none) else some gg) := by
              show (match plA P z c i with | none => _ | some g => _) = _
              rw [← hg]
            rw [ep, if_neg h45t]
          · omega
        have hiq : i < nq := ((hasB_bts hnq (by omega)).mp (subB_h z hz _ ho hsub i (by omega) h45f)).1
        refine g_aload_n hC 0 dX5_deedsIfPledged_48 rfl rfl ?_
        refine g_get (C := RX5) (T := TX5) (N := 10) (ci := 5) (v := .ref xa) hC hcw5 0 rfl rfl 4 (by decide) w2 (fun _ h => h) rfl dX5_deedsIfPledged_49 ?_
        refine g_iload hC 4 dX5_deedsIfPledged_52 rfl ?_
        refine g_callVi (As := [.int (nI i)]) (rest := []) hC (c_X3_tryPledge l D cI cZ xa xp xgc gg r ti np nq nd P i (by first | assumption | omega) (by first | assumption | omega)) (cwV 1 hC.1.2.2.2.2 gX5_deedsIfPledged_X3_tryPledge rfl rfl rfl dV_X3_tryPledge ⟨Nat.le_of_ble_eq_true rfl, Nat.le_of_ble_eq_true rfl⟩) rfl rfl rfl rfl (Nat.le_of_ble_eq_true rfl) dX5_deedsIfPledged_54 ⟨Nat.le_of_ble_eq_true rfl, Nat.le_of_ble_eq_true rfl⟩ [3, 4, 5, 6, 7, 8, 9, 10, 11] [0, 1, 2] [0, 1, 2, 3, 4, 5, 6, 7, 8, 9, 10, 11] (fun (_ : Unit) => [(xo, o5 xt xp xd xn xa xc xs xk ks ch), (xn, .inr (3, [.ref xp, .ref xnc])), (xnc, .inl (cI, 20, .inl c)), (xa, .inr (3, [.ref xp, .ref xgc])), (xgc, .inl (cI, 20, .inl (tryP P gg i))), (xp, o2 r ti np nq nd), (r 1, .inl (cI, 5, .inl (fun k_ => nI (P 0 k_)))), (r 2, .inl (cI, 5, .inl (fun k_ => nI (P 1 k_)))), (r 3, .inl (cI, 5, .inl (fun k_ => nI (P 2 k_)))), (r 4, .inl (cI, 5, .inl (fun k_ => nI (P 3 k_)))), (r 5, .inl (cI, 5, .inl (fun k_ => nI (P 4 k_)))), (r 6, .inl (cI, 5, .inl (fun k_ => nI (P 5 k_))))]) rfl rfl rfl (fun _ => rfl) (fun r54 z54 hp54 => ?_)
        try dsimp only at hp54
        subst hp54
        refine g_is (ws2 := [(xo, o5 xt xp xd xn xa xc xs xk ks ch), (xn, .inr (3, [.ref xp, .ref xnc])), (xnc, .inl (cI, 20, .inl c)), (xa, .inr (3, [.ref xp, .ref xgc])), (xgc, .inl (cI, 20, .inl (tryP P gg i))), (xp, o2 r ti np nq nd), (r 1, .inl (cI, 5, .inl (fun k_ => nI (P 0 k_)))), (r 2, .inl (cI, 5, .inl (fun k_ => nI (P 1 k_)))), (r 3, .inl (cI, 5, .inl (fun k_ => nI (P 2 k_)))), (r 4, .inl (cI, 5, .inl (fun k_ => nI (P 3 k_)))), (r 5, .inl (cI, 5, .inl (fun k_ => nI (P 4 k_)))), (r 6, .inl (cI, 5, .inl (fun k_ => nI (P 5 k_))))]) (lv2 := [(0, .ref xo), (1, .int (nI z)), (2, .int (nI k)), (3, .int v), (4, .int (nI i))]) (st2 := [.int (bI (canP P gg i))]) rfl rfl rfl ?_
        refine g_if_ne_b hC 63 dX5_deedsIfPledged_57 (by decide) (fun h57t => ?_) (fun h57f => ?_)
        · refine g_iinc (v := nI (i + 1)) (lv' := [(0, .ref xo), (1, .int (nI z)), (2, .int (nI k)), (3, .int v), (4, .int (nI (i + 1)))]) hC 4 [1, 2, 3, 4, 0] dX5_deedsIfPledged_63 rfl (nI_add _ 1) (by decide) rfl ?_
          refine g_goto hC 32 dX5_deedsIfPledged_66 (by decide) ?_
          refine ih32 (i + 1) (tryP P gg i) ?_ ?_ ?_
          · omega
          · have ep : plA P z c (i + 1) = (if hasB z i then (if canP P gg i then some (pledgeF P gg i) else none) else some gg) := by
              show (match plA P z c i with | none => _ | some g => _) = _
              rw [← hg]
            rw [ep, if_pos h45f, if_pos h57t, tryP, if_pos h57t]
          · omega
        refine g_bipush (v := (-9)) hC dX5_deedsIfPledged_60 (by decide +kernel) ?_
        subst hQ
        refine g_iret (v := -9) hC (tryP P gg i) hr ?_ rfl dX5_deedsIfPledged_62
        have en : plA P z c (i + 1) = none := by
          show (match plA P z c i with | none => _ | some g => _) = _
          rw [← hg]
          show (if hasB z i then (if canP P gg i then some (pledgeF P gg i) else none) else some gg) = none
          rw [if_pos h45f, if_neg h57f]
        have en5 := plA_none (P := P) (z := z) (c := c) en 5 (by omega)
        rw [ifPl, if_pos hsub, en5]; rfl
    refine L32 _ 0 c ?_ ?_ (Nat.lt_succ_self _)
    · omega
    · rfl
  refine g_bipush (v := (-9)) hC dX5_deedsIfPledged_15 (by decide +kernel) ?_
  subst hQ
  refine g_iret (v := -9) hC (g) hr ?_ rfl dX5_deedsIfPledged_17
  rw [ifPl, if_neg (fun q => h12f ((subB_i z hz _ ho).mpr q))]; rfl

abbrev rm_X5_gain : Room := { frames := 5, cells := 0, slots := 0, locals := 109 }
set_option maxRecDepth 100000 in
set_option maxHeartbeats 8000000 in
theorem c_X5_gain (l : Launch) (D : va_G) (cI cZ : ClassId) (xo : Nat) (xt : Nat) (xp : Nat) (xd : Nat) (xn : Nat) (xa : Nat) (xc : Nat) (xs : Nat) (xk : Nat) (ks : Int32) (ch : Int64) (xnc : Nat) (c : Nat → Int32) (xgc : Nat) (g : Nat → Int32) (r : Nat → Nat) (ti : Int32) (np : Nat) (nq : Nat) (nd : Nat) (P : Nat → Nat → Nat) (w : Nat) (a : Nat) (b : Nat) (q : Nat) (hW : WFP np nq nd P) (hw : w < np) (ha : a < np) (hb : b < np) (hq : q < 4) : CtI l yX5_gain wsX5_gain rm_X5_gain D cI cZ [.ref xo, .int (nI w), .int (nI a), .int (nI b), .int (nI q)] [(xo, o5 xt xp xd xn xa xc xs xk ks ch), (xn, .inr (3, [.ref xp, .ref xnc])), (xnc, .inl (cI, 20, .inl c)), (xa, .inr (3, [.ref xp, .ref xgc])), (xgc, .inl (cI, 20, .inl g)), (xp, o2 r ti np nq nd), (r 1, .inl (cI, 5, .inl (fun k_ => nI (P 0 k_)))), (r 2, .inl (cI, 5, .inl (fun k_ => nI (P 1 k_)))), (r 3, .inl (cI, 5, .inl (fun k_ => nI (P 2 k_)))), (r 4, .inl (cI, 5, .inl (fun k_ => nI (P 3 k_)))), (r 5, .inl (cI, 5, .inl (fun k_ => nI (P 4 k_)))), (r 6, .inl (cI, 5, .inl (fun k_ => nI (P 5 k_))))] (fun (r : Int32) (g2 : (Nat → Int32)) => r = gainF P nq nd c w a b q) (fun (g2 : (Nat → Int32)) => [(xo, o5 xt xp xd xn xa xc xs xk ks ch), (xn, .inr (3, [.ref xp, .ref xnc])), (xnc, .inl (cI, 20, .inl c)), (xa, .inr (3, [.ref xp, .ref xgc])), (xgc, .inl (cI, 20, .inl g2)), (xp, o2 r ti np nq nd), (r 1, .inl (cI, 5, .inl (fun k_ => nI (P 0 k_)))), (r 2, .inl (cI, 5, .inl (fun k_ => nI (P 1 k_)))), (r 3, .inl (cI, 5, .inl (fun k_ => nI (P 2 k_)))), (r 4, .inl (cI, 5, .inl (fun k_ => nI (P 3 k_)))), (r 5, .inl (cI, 5, .inl (fun k_ => nI (P 4 k_)))), (r 6, .inl (cI, 5, .inl (fun k_ => nI (P 5 k_))))]) 0 0 := by
  refine g_startI (ret := (some .int)) (own := RX5) (lv0 := [(0, .ref xo), (1, .int (nI w)), (2, .int (nI a)), (3, .int (nI b)), (4, .int (nI q))]) (by decide) rfl rfl (Nat.le_of_ble_eq_true rfl) rfl ?_
  intro p e s m args below meth cd A Q hin hr hQ hC
  have hcw5 : ∀ w ∈ wsX50, w ∈ wsX5_gain := fun _ h => List.mem_cons_of_mem _ (List.mem_append_left _ (List.mem_append_left _ (List.mem_append_right _ h)))
  have w1 := hC.1.2.2.2.2 (.fieldLink "PluckBroker" 35 "PluckBroker" "ahead" "LPluckBroker$State;") (List.mem_of_getElem? (i := 1) rfl)
  have w2 := hC.1.2.2.2.2 (.fieldLink "PluckBroker" 31 "PluckBroker" "now" "LPluckBroker$State;") (List.mem_of_getElem? (i := 2) rfl)
  have w3 := hC.1.2.2.2.2 (.fieldLink "PluckBroker" 19 "PluckBroker" "plan" "LPluckBroker$Plan;") (List.mem_of_getElem? (i := 3) rfl)
  obtain ⟨⟨hnp, hnq, hnd⟩, hq4, hd5⟩ := id hW
  have hdo : deedsB nd P (nI w) < 32 := bts_le hnd
  refine g_aload_n hC 0 dX5_gain_0 rfl rfl ?_
  refine g_get (C := RX5) (T := TX5) (N := 10) (ci := 5) (v := .ref xa) hC hcw5 0 rfl rfl 4 (by decide) w1 (fun _ h => h) rfl dX5_gain_1 ?_
  refine g_aload_n hC 0 dX5_gain_4 rfl rfl ?_
  refine g_get (C := RX5) (T := TX5) (N := 10) (ci := 5) (v := .ref xn) hC hcw5 0 rfl rfl 3 (by decide) w2 (fun _ h => h) rfl dX5_gain_5 ?_
  refine g_callVv (As := [.ref xn]) (rest := []) hC (c_X3_copy l D cI cZ xa xp xgc g xn xp xnc c) (cwV 1 hC.1.2.2.2.2 gX5_gain_X3_copy rfl rfl rfl dV_X3_copy ⟨Nat.le_of_ble_eq_true rfl, Nat.le_of_ble_eq_true rfl⟩) rfl rfl rfl rfl (Nat.le_of_ble_eq_true rfl) dX5_gain_8 ⟨Nat.le_of_ble_eq_true rfl, Nat.le_of_ble_eq_true rfl⟩ [3, 4, 1, 2] [0, 5, 6, 7, 8, 9, 10, 11] [0, 10, 11, 8, 9, 1, 2, 3, 4, 5, 6, 7] (fun (_ : Unit) => [(xo, o5 xt xp xd xn xa xc xs xk ks ch), (xn, .inr (3, [.ref xp, .ref xnc])), (xnc, .inl (cI, 20, .inl c)), (xa, .inr (3, [.ref xp, .ref xgc])), (xgc, .inl (cI, 20, .inl c)), (xp, o2 r ti np nq nd), (r 1, .inl (cI, 5, .inl (fun k_ => nI (P 0 k_)))), (r 2, .inl (cI, 5, .inl (fun k_ => nI (P 1 k_)))), (r 3, .inl (cI, 5, .inl (fun k_ => nI (P 2 k_)))), (r 4, .inl (cI, 5, .inl (fun k_ => nI (P 3 k_)))), (r 5, .inl (cI, 5, .inl (fun k_ => nI (P 4 k_)))), (r 6, .inl (cI, 5, .inl (fun k_ => nI (P 5 k_))))]) rfl rfl rfl (fun _ => rfl) (fun z8 hp8 => ?_)
  refine g_is (ws2 := [(xo, o5 xt xp xd xn xa xc xs xk ks ch), (xn, .inr (3, [.ref xp, .ref xnc])), (xnc, .inl (cI, 20, .inl c)), (xa, .inr (3, [.ref xp, .ref xgc])), (xgc, .inl (cI, 20, .inl c)), (xp, o2 r ti np nq nd), (r 1, .inl (cI, 5, .inl (fun k_ => nI (P 0 k_)))), (r 2, .inl (cI, 5, .inl (fun k_ => nI (P 1 k_)))), (r 3, .inl (cI, 5, .inl (fun k_ => nI (P 2 k_)))), (r 4, .inl (cI, 5, .inl (fun k_ => nI (P 3 k_)))), (r 5, .inl (cI, 5, .inl (fun k_ => nI (P 4 k_)))), (r 6, .inl (cI, 5, .inl (fun k_ => nI (P 5 k_))))]) (lv2 := [(0, .ref xo), (1, .int (nI w)), (2, .int (nI a)), (3, .int (nI b)), (4, .int (nI q))]) (st2 := []) rfl rfl rfl ?_
  have J34 : ∀ (gg1 : Nat → Int32), (gg1 = if q &&& 2 ≠ 0 then bestF P nq c (nI a) else c) → G p l e rm_X5_gain s m args below meth cd D A 0 0 Q 7 [(xo, o5 xt xp xd xn xa xc xs xk ks ch), (xn, .inr (3, [.ref xp, .ref xnc])), (xnc, .inl (cI, 20, .inl c)), (xa, .inr (3, [.ref xp, .ref xgc])), (xgc, .inl (cI, 20, .inl gg1)), (xp, o2 r ti np nq nd), (r 1, .inl (cI, 5, .inl (fun k_ => nI (P 0 k_)))), (r 2, .inl (cI, 5, .inl (fun k_ => nI (P 1 k_)))), (r 3, .inl (cI, 5, .inl (fun k_ => nI (P 2 k_)))), (r 4, .inl (cI, 5, .inl (fun k_ => nI (P 3 k_)))), (r 5, .inl (cI, 5, .inl (fun k_ => nI (P 4 k_)))), (r 6, .inl (cI, 5, .inl (fun k_ => nI (P 5 k_))))] 34 [(0, .ref xo), (1, .int (nI w)), (2, .int (nI a)), (3, .int (nI b)), (4, .int (nI q))] [] := by
    intro gg1 hg1
    have J57 : ∀ (gg2 : Nat → Int32), (gg2 = if q &&& 1 ≠ 0 then bestF P nq gg1 (nI b) else gg1) → G p l e rm_X5_gain s m args below meth cd D A 0 0 Q 7 [(xo, o5 xt xp xd xn xa xc xs xk ks ch), (xn, .inr (3, [.ref xp, .ref xnc])), (xnc, .inl (cI, 20, .inl c)), (xa, .inr (3, [.ref xp, .ref xgc])), (xgc, .inl (cI, 20, .inl gg2)), (xp, o2 r ti np nq nd), (r 1, .inl (cI, 5, .inl (fun k_ => nI (P 0 k_)))), (r 2, .inl (cI, 5, .inl (fun k_ => nI (P 1 k_)))), (r 3, .inl (cI, 5, .inl (fun k_ => nI (P 2 k_)))), (r 4, .inl (cI, 5, .inl (fun k_ => nI (P 3 k_)))), (r 5, .inl (cI, 5, .inl (fun k_ => nI (P 4 k_)))), (r 6, .inl (cI, 5, .inl (fun k_ => nI (P 5 k_))))] 57 [(0, .ref xo), (1, .int (nI w)), (2, .int (nI a)), (3, .int (nI b)), (4, .int (nI q))] [] := by
      intro gg2 hg2
      refine g_aload_n hC 0 dX5_gain_57 rfl rfl ?_
      refine g_get (C := RX5) (T := TX5) (N := 10) (ci := 5) (v := .ref xa) hC hcw5 0 rfl rfl 4 (by decide) w1 (fun _ h => h) rfl dX5_gain_58 ?_
      refine g_iload_n hC 1 dX5_gain_61 rfl rfl ?_
      refine g_callVip (As := [.int (nI w)]) (rest := []) hC (gg2 (2 + w)) (c_X3_purseOf l D cI cZ xa xp xgc gg2 w (by omega)) (cwV 1 hC.1.2.2.2.2 gX5_gain_X3_purseOf rfl rfl rfl dV_X3_purseOf ⟨Nat.le_of_ble_eq_true rfl, Nat.le_of_ble_eq_true rfl⟩) rfl rfl rfl rfl (Nat.le_of_ble_eq_true rfl) dX5_gain_62 ⟨Nat.le_of_ble_eq_true rfl, Nat.le_of_ble_eq_true rfl⟩ [3, 4] rfl rfl ?_
      refine g_istore (lv' := [(0, .ref xo), (1, .int (nI w)), (2, .int (nI a)), (3, .int (nI b)), (4, .int (nI q)), (5, .int (gg2 (2 + w)))]) hC [1, 2, 3, 4, 5, 0] dX5_gain_65 (by decide) rfl ?_
      refine g_aload_n hC 0 dX5_gain_67 rfl rfl ?_
      refine g_get (C := RX5) (T := TX5) (N := 10) (ci := 5) (v := .ref xp) hC hcw5 0 rfl rfl 1 (by decide) w3 (fun _ h => h) rfl dX5_gain_68 ?_
      refine g_iload_n hC 1 dX5_gain_71 rfl rfl ?_
      refine g_callVip (As := [.int (nI w)]) (rest := []) hC (nI (deedsB nd P (nI w))) (c_X2_deedsOf l D cI cZ xp r ti np nq nd P (nI w) (by first | assumption | omega)) (cwV 1 hC.1.2.2.2.2 gX5_gain_X2_deedsOf rfl rfl rfl dV_X2_deedsOf ⟨Nat.le_of_ble_eq_true rfl, Nat.le_of_ble_eq_true rfl⟩) rfl rfl rfl rfl (Nat.le_of_ble_eq_true rfl) dX5_gain_72 ⟨Nat.le_of_ble_eq_true rfl, Nat.le_of_ble_eq_true rfl⟩ [5, 6, 9] rfl rfl ?_
      refine g_aload_n hC 0 dX5_gain_75 rfl rfl ?_
      refine g_get (C := RX5) (T := TX5) (N := 10) (ci := 5) (v := .ref xa) hC hcw5 0 rfl rfl 4 (by decide) w1 (fun _ h => h) rfl dX5_gain_76 ?_
      refine g_callVi (As := []) (rest := [.int (nI (deedsB nd P (nI w)))]) hC (c_X3_deedsInTheEnd l D cI cZ xa xp xgc gg2 r ti np nq nd P (by first | assumption | omega)) (cwV 0 hC.1.2.2.2.2 gX5_gain_X3_deedsInTheEnd rfl rfl rfl dV_X3_deedsInTheEnd ⟨Nat.le_of_ble_eq_true rfl, Nat.le_of_ble_eq_true rfl⟩) rfl rfl rfl rfl (Nat.le_of_ble_eq_true rfl) dX5_gain_79 ⟨Nat.le_of_ble_eq_true rfl, Nat.le_of_ble_eq_true rfl⟩ [3, 4, 5, 6, 7, 8, 9, 10, 11] [0, 1, 2] [0, 1, 2, 3, 4, 5, 6, 7, 8, 9, 10, 11] (fun (_ : Unit) => [(xo, o5 xt xp xd xn xa xc xs xk ks ch), (xn, .inr (3, [.ref xp, .ref xnc])), (xnc, .inl (cI, 20, .inl c)), (xa, .inr (3, [.ref xp, .ref xgc])), (xgc, .inl (cI, 20, .inl (passN P nq nd gg2 20))), (xp, o2 r ti np nq nd), (r 1, .inl (cI, 5, .inl (fun k_ => nI (P 0 k_)))), (r 2, .inl (cI, 5, .inl (fun k_ => nI (P 1 k_)))), (r 3, .inl (cI, 5, .inl (fun k_ => nI (P 2 k_)))), (r 4, .inl (cI, 5, .inl (fun k_ => nI (P 3 k_)))), (r 5, .inl (cI, 5, .inl (fun k_ => nI (P 4 k_)))), (r 6, .inl (cI, 5, .inl (fun k_ => nI (P 5 k_))))]) rfl rfl rfl (fun _ => rfl) (fun r79 z79 hp79 => ?_)
      try dsimp only at hp79
      subst hp79
      refine g_is (ws2 := [(xo, o5 xt xp xd xn xa xc xs xk ks ch), (xn, .inr (3, [.ref xp, .ref xnc])), (xnc, .inl (cI, 20, .inl c)), (xa, .inr (3, [.ref xp, .ref xgc])), (xgc, .inl (cI, 20, .inl (passN P nq nd gg2 20))), (xp, o2 r ti np nq nd), (r 1, .inl (cI, 5, .inl (fun k_ => nI (P 0 k_)))), (r 2, .inl (cI, 5, .inl (fun k_ => nI (P 1 k_)))), (r 3, .inl (cI, 5, .inl (fun k_ => nI (P 2 k_)))), (r 4, .inl (cI, 5, .inl (fun k_ => nI (P 3 k_)))), (r 5, .inl (cI, 5, .inl (fun k_ => nI (P 4 k_)))), (r 6, .inl (cI, 5, .inl (fun k_ => nI (P 5 k_))))]) (lv2 := [(0, .ref xo), (1, .int (nI w)), (2, .int (nI a)), (3, .int (nI b)), (4, .int (nI q)), (5, .int (gg2 (2 + w)))]) (st2 := [.int (nI (deedsThat nd (passN P nq nd gg2 20) (nI 1))), .int (nI (deedsB nd P (nI w)))]) rfl rfl rfl ?_
      refine g_iconst (v := (-1)) hC dX5_gain_82 rfl ?_
      refine g_ixor hC dX5_gain_83 ?_
      refine g_iand hC dX5_gain_84 ?_
      refine g_top (y := nI (deedsB nd P (nI w) &&& (31 - deedsThat nd (passN P nq nd gg2 20) (nI 1)))) (nandB _ hdo _ (bts_le hnd)) ?_
      have hpp : deedsB nd P (nI w) &&& (31 - deedsThat nd (passN P nq nd gg2 20) (nI 1)) < 32 := Nat.lt_of_le_of_lt Nat.and_le_left hdo
      refine g_callSip (As := [.int (nI (deedsB nd P (nI w) &&& (31 - deedsThat nd (passN P nq nd gg2 20) (nI 1))))]) (rest := []) hC (nI (pop5 (deedsB nd P (nI w) &&& (31 - deedsThat nd (passN P nq nd gg2 20) (nI 1))))) (c_J6_bitCount_0f7a4 l D cI cZ (deedsB nd P (nI w) &&& (31 - deedsThat nd (passN P nq nd gg2 20) (nI 1))) (by first | assumption | omega)) (va_cwS 1 hC.1.2.2.2.2 gX5_gain_J6_bitCount_0f7a4 rfl rfl rfl dS_J6_bitCount_0f7a4 ⟨Nat.le_of_ble_eq_true rfl, Nat.le_of_ble_eq_true rfl⟩) rfl rfl (Nat.le_of_ble_eq_true rfl) dX5_gain_85 ⟨Nat.le_of_ble_eq_true rfl, Nat.le_of_ble_eq_true rfl⟩ [] rfl rfl ?_
      refine g_istore (lv' := [(0, .ref xo), (1, .int (nI w)), (2, .int (nI a)), (3, .int (nI b)), (4, .int (nI q)), (5, .int (gg2 (2 + w))), (6, .int (nI (pop5 (deedsB nd P (nI w) &&& (31 - deedsThat nd (passN P nq nd gg2 20) (nI 1))))))]) hC [1, 2, 3, 4, 5, 6, 0] dX5_gain_88 (by decide) rfl ?_
      refine g_iload hC 5 dX5_gain_90 rfl ?_
      refine g_iconst (v := nI 5) hC dX5_gain_92 rfl ?_
      refine g_iload hC 6 dX5_gain_93 rfl ?_
      refine g_imul_n (a := 5) (b := (pop5 (deedsB nd P (nI w) &&& (31 - deedsThat nd (passN P nq nd gg2 20) (nI 1))))) hC dX5_gain_95 ?_
      refine g_isub hC dX5_gain_96 ?_
      subst hQ
      refine g_iret (v := (gg2 (2 + w)) - (nI (5 * (pop5 (deedsB nd P (nI w) &&& (31 - deedsThat nd (passN P nq nd gg2 20) (nI 1))))))) hC (passN P nq nd gg2 20) hr ?_ rfl dX5_gain_97
      have e2 : gg2 = pairF P nq c a b q := by rw [hg2, hg1]; rfl
      rw [gainF, ← e2]
    refine g_iload hC 4 dX5_gain_34 rfl ?_
    refine g_iconst (v := nI 1) hC dX5_gain_36 rfl ?_
    refine g_iand_n (a := q) (b := 1) hC dX5_gain_37 ?_
    refine g_if_eq_n (a := (q &&& 1)) hC (by exact Nat.lt_of_le_of_lt Nat.and_le_right (by decide)) 57 dX5_gain_38 (by decide) (fun h38t => ?_) (fun h38f => ?_)
    · refine J57 gg1 ?_
      · rw [if_neg (fun w => w h38t)]
    refine g_aload_n hC 0 dX5_gain_41 rfl rfl ?_
    refine g_get (C := RX5) (T := TX5) (N := 10) (ci := 5) (v := .ref xa) hC hcw5 0 rfl rfl 4 (by decide) w1 (fun _ h => h) rfl dX5_gain_42 ?_
    refine g_aload_n hC 0 dX5_gain_45 rfl rfl ?_
    refine g_get (C := RX5) (T := TX5) (N := 10) (ci := 5) (v := .ref xa) hC hcw5 0 rfl rfl 4 (by decide) w1 (fun _ h => h) rfl dX5_gain_46 ?_
    refine g_iload_n hC 3 dX5_gain_49 rfl rfl ?_
    refine g_callVip (As := [.int (nI b)]) (rest := [.ref xa]) hC (oI (dear P gg1 (nI b) nq)) (c_X3_dearestOf l D cI cZ xa xp xgc gg1 r ti np nq nd P (nI b) (by first | assumption | omega)) (cwV 1 hC.1.2.2.2.2 gX5_gain_X3_dearestOf rfl rfl rfl dV_X3_dearestOf ⟨Nat.le_of_ble_eq_true rfl, Nat.le_of_ble_eq_true rfl⟩) rfl rfl rfl rfl (Nat.le_of_ble_eq_true rfl) dX5_gain_50 ⟨Nat.le_of_ble_eq_true rfl, Nat.le_of_ble_eq_true rfl⟩ [3, 4, 5, 6, 7, 8, 9, 10, 11] rfl rfl ?_
    by_cases hee : dear P gg1 (nI b) nq ≠ none
    · obtain ⟨d2, hd2⟩ := Option.ne_none_iff_exists'.mp hee
      have hb2 := dear_lt P gg1 (nI b) nq d2 hd2
      refine g_top (y := nI d2) (by rw [hd2]; rfl) ?_
      refine g_callVi (As := [.int (nI d2)]) (rest := []) hC (c_X3_tryPledge l D cI cZ xa xp xgc gg1 r ti np nq nd P d2 (by first | assumption | omega) hb2) (cwV 1 hC.1.2.2.2.2 gX5_gain_X3_tryPledge rfl rfl rfl dV_X3_tryPledge ⟨Nat.le_of_ble_eq_true rfl, Nat.le_of_ble_eq_true rfl⟩) rfl rfl rfl rfl (Nat.le_of_ble_eq_true rfl) dX5_gain_53 ⟨Nat.le_of_ble_eq_true rfl, Nat.le_of_ble_eq_true rfl⟩ [3, 4, 5, 6, 7, 8, 9, 10, 11] [0, 1, 2] [0, 1, 2, 3, 4, 5, 6, 7, 8, 9, 10, 11] (fun (_ : Unit) => [(xo, o5 xt xp xd xn xa xc xs xk ks ch), (xn, .inr (3, [.ref xp, .ref xnc])), (xnc, .inl (cI, 20, .inl c)), (xa, .inr (3, [.ref xp, .ref xgc])), (xgc, .inl (cI, 20, .inl (tryP P gg1 d2))), (xp, o2 r ti np nq nd), (r 1, .inl (cI, 5, .inl (fun k_ => nI (P 0 k_)))), (r 2, .inl (cI, 5, .inl (fun k_ => nI (P 1 k_)))), (r 3, .inl (cI, 5, .inl (fun k_ => nI (P 2 k_)))), (r 4, .inl (cI, 5, .inl (fun k_ => nI (P 3 k_)))), (r 5, .inl (cI, 5, .inl (fun k_ => nI (P 4 k_)))), (r 6, .inl (cI, 5, .inl (fun k_ => nI (P 5 k_))))]) rfl rfl rfl (fun _ => rfl) (fun r53 z53 hp53 => ?_)
      try dsimp only at hp53
      subst hp53
      refine g_is (ws2 := [(xo, o5 xt xp xd xn xa xc xs xk ks ch), (xn, .inr (3, [.ref xp, .ref xnc])), (xnc, .inl (cI, 20, .inl c)), (xa, .inr (3, [.ref xp, .ref xgc])), (xgc, .inl (cI, 20, .inl (tryP P gg1 d2))), (xp, o2 r ti np nq nd), (r 1, .inl (cI, 5, .inl (fun k_ => nI (P 0 k_)))), (r 2, .inl (cI, 5, .inl (fun k_ => nI (P 1 k_)))), (r 3, .inl (cI, 5, .inl (fun k_ => nI (P 2 k_)))), (r 4, .inl (cI, 5, .inl (fun k_ => nI (P 3 k_)))), (r 5, .inl (cI, 5, .inl (fun k_ => nI (P 4 k_)))), (r 6, .inl (cI, 5, .inl (fun k_ => nI (P 5 k_))))]) (lv2 := [(0, .ref xo), (1, .int (nI w)), (2, .int (nI a)), (3, .int (nI b)), (4, .int (nI q))]) (st2 := [.int (bI (canP P gg1 d2))]) rfl rfl rfl ?_
      refine g_pop hC dX5_gain_56 rfl ?_
      refine J57 (tryP P gg1 d2) ?_
      · rw [if_pos h38f, bestF, hd2]
    have he0 := Decidable.not_not.mp hee
    have no9 : ¬ inR (-9) nq := fun w => absurd w.1 (by decide)
    refine g_top (y := -9) (by rw [he0]; rfl) ?_
    refine g_callVip (As := [.int (-9)]) (rest := []) hC (nI 0) (c_X3_tryPledge_no l D cI cZ xa xp xgc gg1 r ti np nq nd P (-9) (by first | assumption | omega) no9) (cwV 1 hC.1.2.2.2.2 gX5_gain_X3_tryPledge rfl rfl rfl dV_X3_tryPledge ⟨Nat.le_of_ble_eq_true rfl, Nat.le_of_ble_eq_true rfl⟩) rfl rfl rfl rfl (Nat.le_of_ble_eq_true rfl) dX5_gain_53 ⟨Nat.le_of_ble_eq_true rfl, Nat.le_of_ble_eq_true rfl⟩ [3, 4, 5, 6, 7, 8, 9, 10, 11] rfl rfl ?_
    refine g_pop hC dX5_gain_56 rfl ?_
    refine J57 gg1 ?_
    · rw [if_pos h38f, bestF, he0]
  refine g_iload hC 4 dX5_gain_11 rfl ?_
  refine g_iconst (v := nI 2) hC dX5_gain_13 rfl ?_
  refine g_iand_n (a := q) (b := 2) hC dX5_gain_14 ?_
  refine g_if_eq_n (a := (q &&& 2)) hC (by exact Nat.lt_of_le_of_lt Nat.and_le_right (by decide)) 34 dX5_gain_15 (by decide) (fun h15t => ?_) (fun h15f => ?_)
  · refine J34 c ?_
    · rw [if_neg (fun w => w h15t)]
  refine g_aload_n hC 0 dX5_gain_18 rfl rfl ?_
  refine g_get (C := RX5) (T := TX5) (N := 10) (ci := 5) (v := .ref xa) hC hcw5 0 rfl rfl 4 (by decide) w1 (fun _ h => h) rfl dX5_gain_19 ?_
  refine g_aload_n hC 0 dX5_gain_22 rfl rfl ?_
  refine g_get (C := RX5) (T := TX5) (N := 10) (ci := 5) (v := .ref xa) hC hcw5 0 rfl rfl 4 (by decide) w1 (fun _ h => h) rfl dX5_gain_23 ?_
  refine g_iload_n hC 2 dX5_gain_26 rfl rfl ?_
  refine g_callVip (As := [.int (nI a)]) (rest := [.ref xa]) hC (oI (dear P c (nI a) nq)) (c_X3_dearestOf l D cI cZ xa xp xgc c r ti np nq nd P (nI a) (by first | assumption | omega)) (cwV 1 hC.1.2.2.2.2 gX5_gain_X3_dearestOf rfl rfl rfl dV_X3_dearestOf ⟨Nat.le_of_ble_eq_true rfl, Nat.le_of_ble_eq_true rfl⟩) rfl rfl rfl rfl (Nat.le_of_ble_eq_true rfl) dX5_gain_27 ⟨Nat.le_of_ble_eq_true rfl, Nat.le_of_ble_eq_true rfl⟩ [3, 4, 5, 6, 7, 8, 9, 10, 11] rfl rfl ?_
  by_cases hdd : dear P c (nI a) nq ≠ none
  · obtain ⟨d1, hd1⟩ := Option.ne_none_iff_exists'.mp hdd
    have hb1 := dear_lt P c (nI a) nq d1 hd1
    refine g_top (y := nI d1) (by rw [hd1]; rfl) ?_
    refine g_callVi (As := [.int (nI d1)]) (rest := []) hC (c_X3_tryPledge l D cI cZ xa xp xgc c r ti np nq nd P d1 (by first | assumption | omega) hb1) (cwV 1 hC.1.2.2.2.2 gX5_gain_X3_tryPledge rfl rfl rfl dV_X3_tryPledge ⟨Nat.le_of_ble_eq_true rfl, Nat.le_of_ble_eq_true rfl⟩) rfl rfl rfl rfl (Nat.le_of_ble_eq_true rfl) dX5_gain_30 ⟨Nat.le_of_ble_eq_true rfl, Nat.le_of_ble_eq_true rfl⟩ [3, 4, 5, 6, 7, 8, 9, 10, 11] [0, 1, 2] [0, 1, 2, 3, 4, 5, 6, 7, 8, 9, 10, 11] (fun (_ : Unit) => [(xo, o5 xt xp xd xn xa xc xs xk ks ch), (xn, .inr (3, [.ref xp, .ref xnc])), (xnc, .inl (cI, 20, .inl c)), (xa, .inr (3, [.ref xp, .ref xgc])), (xgc, .inl (cI, 20, .inl (tryP P c d1))), (xp, o2 r ti np nq nd), (r 1, .inl (cI, 5, .inl (fun k_ => nI (P 0 k_)))), (r 2, .inl (cI, 5, .inl (fun k_ => nI (P 1 k_)))), (r 3, .inl (cI, 5, .inl (fun k_ => nI (P 2 k_)))), (r 4, .inl (cI, 5, .inl (fun k_ => nI (P 3 k_)))), (r 5, .inl (cI, 5, .inl (fun k_ => nI (P 4 k_)))), (r 6, .inl (cI, 5, .inl (fun k_ => nI (P 5 k_))))]) rfl rfl rfl (fun _ => rfl) (fun r30 z30 hp30 => ?_)
    try dsimp only at hp30
    subst hp30
    refine g_is (ws2 := [(xo, o5 xt xp xd xn xa xc xs xk ks ch), (xn, .inr (3, [.ref xp, .ref xnc])), (xnc, .inl (cI, 20, .inl c)), (xa, .inr (3, [.ref xp, .ref xgc])), (xgc, .inl (cI, 20, .inl (tryP P c d1))), (xp, o2 r ti np nq nd), (r 1, .inl (cI, 5, .inl (fun k_ => nI (P 0 k_)))), (r 2, .inl (cI, 5, .inl (fun k_ => nI (P 1 k_)))), (r 3, .inl (cI, 5, .inl (fun k_ => nI (P 2 k_)))), (r 4, .inl (cI, 5, .inl (fun k_ => nI (P 3 k_)))), (r 5, .inl (cI, 5, .inl (fun k_ => nI (P 4 k_)))), (r 6, .inl (cI, 5, .inl (fun k_ => nI (P 5 k_))))]) (lv2 := [(0, .ref xo), (1, .int (nI w)), (2, .int (nI a)), (3, .int (nI b)), (4, .int (nI q))]) (st2 := [.int (bI (canP P c d1))]) rfl rfl rfl ?_
    refine g_pop hC dX5_gain_33 rfl ?_
    refine J34 (tryP P c d1) ?_
    · rw [if_pos h15f, bestF, hd1]
  have hd0 := Decidable.not_not.mp hdd
  have no9 : ¬ inR (-9) nq := fun w => absurd w.1 (by decide)
  refine g_top (y := -9) (by rw [hd0]; rfl) ?_
  refine g_callVip (As := [.int (-9)]) (rest := []) hC (nI 0) (c_X3_tryPledge_no l D cI cZ xa xp xgc c r ti np nq nd P (-9) (by first | assumption | omega) no9) (cwV 1 hC.1.2.2.2.2 gX5_gain_X3_tryPledge rfl rfl rfl dV_X3_tryPledge ⟨Nat.le_of_ble_eq_true rfl, Nat.le_of_ble_eq_true rfl⟩) rfl rfl rfl rfl (Nat.le_of_ble_eq_true rfl) dX5_gain_30 ⟨Nat.le_of_ble_eq_true rfl, Nat.le_of_ble_eq_true rfl⟩ [3, 4, 5, 6, 7, 8, 9, 10, 11] rfl rfl ?_
  refine g_pop hC dX5_gain_33 rfl ?_
  refine J34 c ?_
  · rw [if_pos h15f, bestF, hd0]

abbrev rm_X5_deedsIfSold : Room := { frames := 5, cells := 0, slots := 0, locals := 109 }
set_option maxRecDepth 100000 in
set_option maxHeartbeats 4000000 in
theorem c_X5_deedsIfSold (l : Launch) (D : va_G) (cI cZ : ClassId) (xo : Nat) (xt : Nat) (xp : Nat) (xd : Nat) (xn : Nat) (xa : Nat) (xc : Nat) (xs : Nat) (xk : Nat) (ks : Int32) (ch : Int64) (xnc : Nat) (c : Nat → Int32) (xgc : Nat) (g : Nat → Int32) (r : Nat → Nat) (ti : Int32) (np : Nat) (nq : Nat) (nd : Nat) (P : Nat → Nat → Nat) (z : Nat) (hW : WFP np nq nd P) (hz : z < 32) : CtI l yX5_deedsIfSold wsX5_deedsIfSold rm_X5_deedsIfSold D cI cZ [.ref xo, .int (nI z)] [(xo, o5 xt xp xd xn xa xc xs xk ks ch), (xn, .inr (3, [.ref xp, .ref xnc])), (xnc, .inl (cI, 20, .inl c)), (xa, .inr (3, [.ref xp, .ref xgc])), (xgc, .inl (cI, 20, .inl g)), (xp, o2 r ti np nq nd), (r 1, .inl (cI, 5, .inl (fun k_ => nI (P 0 k_)))), (r 2, .inl (cI, 5, .inl (fun k_ => nI (P 1 k_)))), (r 3, .inl (cI, 5, .inl (fun k_ => nI (P 2 k_)))), (r 4, .inl (cI, 5, .inl (fun k_ => nI (P 3 k_)))), (r 5, .inl (cI, 5, .inl (fun k_ => nI (P 4 k_)))), (r 6, .inl (cI, 5, .inl (fun k_ => nI (P 5 k_))))] (fun (r : Int32) (g2 : (Nat → Int32)) => r = nI (pop5 (deedsThat nd (passN P nq nd (settleF z c nq) 20) (nI 1)))) (fun (g2 : (Nat → Int32)) => [(xo, o5 xt xp xd xn xa xc xs xk ks ch), (xn, .inr (3, [.ref xp, .ref xnc])), (xnc, .inl (cI, 20, .inl c)), (xa, .inr (3, [.ref xp, .ref xgc])), (xgc, .inl (cI, 20, .inl g2)), (xp, o2 r ti np nq nd), (r 1, .inl (cI, 5, .inl (fun k_ => nI (P 0 k_)))), (r 2, .inl (cI, 5, .inl (fun k_ => nI (P 1 k_)))), (r 3, .inl (cI, 5, .inl (fun k_ => nI (P 2 k_)))), (r 4, .inl (cI, 5, .inl (fun k_ => nI (P 3 k_)))), (r 5, .inl (cI, 5, .inl (fun k_ => nI (P 4 k_)))), (r 6, .inl (cI, 5, .inl (fun k_ => nI (P 5 k_))))]) 0 0 := by
  refine g_startI (ret := (some .int)) (own := RX5) (lv0 := [(0, .ref xo), (1, .int (nI z))]) (by decide) rfl rfl (Nat.le_of_ble_eq_true rfl) rfl ?_
  intro p e s m args below meth cd A Q hin hr hQ hC
  have hcw5 : ∀ w ∈ wsX50, w ∈ wsX5_deedsIfSold := fun _ h => List.mem_cons_of_mem _ (List.mem_append_left _ (List.mem_append_left _ (List.mem_append_right _ h)))
  have w1 := hC.1.2.2.2.2 (.fieldLink "PluckBroker" 35 "PluckBroker" "ahead" "LPluckBroker$State;") (List.mem_of_getElem? (i := 1) rfl)
  have w2 := hC.1.2.2.2.2 (.fieldLink "PluckBroker" 31 "PluckBroker" "now" "LPluckBroker$State;") (List.mem_of_getElem? (i := 2) rfl)
  obtain ⟨⟨hnp, hnq, hnd⟩, hq4, hd5⟩ := id hW
  refine g_aload_n hC 0 dX5_deedsIfSold_0 rfl rfl ?_
  refine g_get (C := RX5) (T := TX5) (N := 10) (ci := 5) (v := .ref xa) hC hcw5 0 rfl rfl 4 (by decide) w1 (fun _ h => h) rfl dX5_deedsIfSold_1 ?_
  refine g_aload_n hC 0 dX5_deedsIfSold_4 rfl rfl ?_
  refine g_get (C := RX5) (T := TX5) (N := 10) (ci := 5) (v := .ref xn) hC hcw5 0 rfl rfl 3 (by decide) w2 (fun _ h => h) rfl dX5_deedsIfSold_5 ?_
  refine g_callVv (As := [.ref xn]) (rest := []) hC (c_X3_copy l D cI cZ xa xp xgc g xn xp xnc c) (cwV 1 hC.1.2.2.2.2 gX5_deedsIfSold_X3_copy rfl rfl rfl dV_X3_copy ⟨Nat.le_of_ble_eq_true rfl, Nat.le_of_ble_eq_true rfl⟩) rfl rfl rfl rfl (Nat.le_of_ble_eq_true rfl) dX5_deedsIfSold_8 ⟨Nat.le_of_ble_eq_true rfl, Nat.le_of_ble_eq_true rfl⟩ [3, 4, 1, 2] [0, 5, 6, 7, 8, 9, 10, 11] [0, 10, 11, 8, 9, 1, 2, 3, 4, 5, 6, 7] (fun (_ : Unit) => [(xo, o5 xt xp xd xn xa xc xs xk ks ch), (xn, .inr (3, [.ref xp, .ref xnc])), (xnc, .inl (cI, 20, .inl c)), (xa, .inr (3, [.ref xp, .ref xgc])), (xgc, .inl (cI, 20, .inl c)), (xp, o2 r ti np nq nd), (r 1, .inl (cI, 5, .inl (fun k_ => nI (P 0 k_)))), (r 2, .inl (cI, 5, .inl (fun k_ => nI (P 1 k_)))), (r 3, .inl (cI, 5, .inl (fun k_ => nI (P 2 k_)))), (r 4, .inl (cI, 5, .inl (fun k_ => nI (P 3 k_)))), (r 5, .inl (cI, 5, .inl (fun k_ => nI (P 4 k_)))), (r 6, .inl (cI, 5, .inl (fun k_ => nI (P 5 k_))))]) rfl rfl rfl (fun _ => rfl) (fun z8 hp8 => ?_)
  refine g_is (ws2 := [(xo, o5 xt xp xd xn xa xc xs xk ks ch), (xn, .inr (3, [.ref xp, .ref xnc])), (xnc, .inl (cI, 20, .inl c)), (xa, .inr (3, [.ref xp, .ref xgc])), (xgc, .inl (cI, 20, .inl c)), (xp, o2 r ti np nq nd), (r 1, .inl (cI, 5, .inl (fun k_ => nI (P 0 k_)))), (r 2, .inl (cI, 5, .inl (fun k_ => nI (P 1 k_)))), (r 3, .inl (cI, 5, .inl (fun k_ => nI (P 2 k_)))), (r 4, .inl (cI, 5, .inl (fun k_ => nI (P 3 k_)))), (r 5, .inl (cI, 5, .inl (fun k_ => nI (P 4 k_)))), (r 6, .inl (cI, 5, .inl (fun k_ => nI (P 5 k_))))]) (lv2 := [(0, .ref xo), (1, .int (nI z))]) (st2 := []) rfl rfl rfl ?_
  refine g_aload_n hC 0 dX5_deedsIfSold_11 rfl rfl ?_
  refine g_get (C := RX5) (T := TX5) (N := 10) (ci := 5) (v := .ref xa) hC hcw5 0 rfl rfl 4 (by decide) w1 (fun _ h => h) rfl dX5_deedsIfSold_12 ?_
  refine g_iload_n hC 1 dX5_deedsIfSold_15 rfl rfl ?_
  refine g_callVv (As := [.int (nI z)]) (rest := []) hC (c_X3_settle l D cI cZ xa xp xgc c r ti np nq nd z hnq (by first | assumption | omega)) (cwV 1 hC.1.2.2.2.2 gX5_deedsIfSold_X3_settle rfl rfl rfl dV_X3_settle ⟨Nat.le_of_ble_eq_true rfl, Nat.le_of_ble_eq_true rfl⟩) rfl rfl rfl rfl (Nat.le_of_ble_eq_true rfl) dX5_deedsIfSold_16 ⟨Nat.le_of_ble_eq_true rfl, Nat.le_of_ble_eq_true rfl⟩ [3, 4, 5] [0, 1, 2, 6, 7, 8, 9, 10, 11] [0, 1, 2, 9, 10, 11, 3, 4, 5, 6, 7, 8] (fun (_ : Unit) => [(xo, o5 xt xp xd xn xa xc xs xk ks ch), (xn, .inr (3, [.ref xp, .ref xnc])), (xnc, .inl (cI, 20, .inl c)), (xa, .inr (3, [.ref xp, .ref xgc])), (xgc, .inl (cI, 20, .inl (settleF z c nq))), (xp, o2 r ti np nq nd), (r 1, .inl (cI, 5, .inl (fun k_ => nI (P 0 k_)))), (r 2, .inl (cI, 5, .inl (fun k_ => nI (P 1 k_)))), (r 3, .inl (cI, 5, .inl (fun k_ => nI (P 2 k_)))), (r 4, .inl (cI, 5, .inl (fun k_ => nI (P 3 k_)))), (r 5, .inl (cI, 5, .inl (fun k_ => nI (P 4 k_)))), (r 6, .inl (cI, 5, .inl (fun k_ => nI (P 5 k_))))]) rfl rfl rfl (fun _ => rfl) (fun z16 hp16 => ?_)
  refine g_is (ws2 := [(xo, o5 xt xp xd xn xa xc xs xk ks ch), (xn, .inr (3, [.ref xp, .ref xnc])), (xnc, .inl (cI, 20, .inl c)), (xa, .inr (3, [.ref xp, .ref xgc])), (xgc, .inl (cI, 20, .inl (settleF z c nq))), (xp, o2 r ti np nq nd), (r 1, .inl (cI, 5, .inl (fun k_ => nI (P 0 k_)))), (r 2, .inl (cI, 5, .inl (fun k_ => nI (P 1 k_)))), (r 3, .inl (cI, 5, .inl (fun k_ => nI (P 2 k_)))), (r 4, .inl (cI, 5, .inl (fun k_ => nI (P 3 k_)))), (r 5, .inl (cI, 5, .inl (fun k_ => nI (P 4 k_)))), (r 6, .inl (cI, 5, .inl (fun k_ => nI (P 5 k_))))]) (lv2 := [(0, .ref xo), (1, .int (nI z))]) (st2 := []) rfl rfl rfl ?_
  refine g_aload_n hC 0 dX5_deedsIfSold_19 rfl rfl ?_
  refine g_get (C := RX5) (T := TX5) (N := 10) (ci := 5) (v := .ref xa) hC hcw5 0 rfl rfl 4 (by decide) w1 (fun _ h => h) rfl dX5_deedsIfSold_20 ?_
  refine g_callVi (As := []) (rest := []) hC (c_X3_deedsInTheEnd l D cI cZ xa xp xgc (settleF z c nq) r ti np nq nd P (by first | assumption | omega)) (cwV 0 hC.1.2.2.2.2 gX5_deedsIfSold_X3_deedsInTheEnd rfl rfl rfl dV_X3_deedsInTheEnd ⟨Nat.le_of_ble_eq_true rfl, Nat.le_of_ble_eq_true rfl⟩) rfl rfl rfl rfl (Nat.le_of_ble_eq_true rfl) dX5_deedsIfSold_23 ⟨Nat.le_of_ble_eq_true rfl, Nat.le_of_ble_eq_true rfl⟩ [3, 4, 5, 6, 7, 8, 9, 10, 11] [0, 1, 2] [0, 1, 2, 3, 4, 5, 6, 7, 8, 9, 10, 11] (fun (_ : Unit) => [(xo, o5 xt xp xd xn xa xc xs xk ks ch), (xn, .inr (3, [.ref xp, .ref xnc])), (xnc, .inl (cI, 20, .inl c)), (xa, .inr (3, [.ref xp, .ref xgc])), (xgc, .inl (cI, 20, .inl (passN P nq nd (settleF z c nq) 20))), (xp, o2 r ti np nq nd), (r 1, .inl (cI, 5, .inl (fun k_ => nI (P 0 k_)))), (r 2, .inl (cI, 5, .inl (fun k_ => nI (P 1 k_)))), (r 3, .inl (cI, 5, .inl (fun k_ => nI (P 2 k_)))), (r 4, .inl (cI, 5, .inl (fun k_ => nI (P 3 k_)))), (r 5, .inl (cI, 5, .inl (fun k_ => nI (P 4 k_)))), (r 6, .inl (cI, 5, .inl (fun k_ => nI (P 5 k_))))]) rfl rfl rfl (fun _ => rfl) (fun r23 z23 hp23 => ?_)
  try dsimp only at hp23
  subst hp23
  refine g_is (ws2 := [(xo, o5 xt xp xd xn xa xc xs xk ks ch), (xn, .inr (3, [.ref xp, .ref xnc])), (xnc, .inl (cI, 20, .inl c)), (xa, .inr (3, [.ref xp, .ref xgc])), (xgc, .inl (cI, 20, .inl (passN P nq nd (settleF z c nq) 20))), (xp, o2 r ti np nq nd), (r 1, .inl (cI, 5, .inl (fun k_ => nI (P 0 k_)))), (r 2, .inl (cI, 5, .inl (fun k_ => nI (P 1 k_)))), (r 3, .inl (cI, 5, .inl (fun k_ => nI (P 2 k_)))), (r 4, .inl (cI, 5, .inl (fun k_ => nI (P 3 k_)))), (r 5, .inl (cI, 5, .inl (fun k_ => nI (P 4 k_)))), (r 6, .inl (cI, 5, .inl (fun k_ => nI (P 5 k_))))]) (lv2 := [(0, .ref xo), (1, .int (nI z))]) (st2 := [.int (nI (deedsThat nd (passN P nq nd (settleF z c nq) 20) (nI 1)))]) rfl rfl rfl ?_
  refine g_callSip (As := [.int (nI (deedsThat nd (passN P nq nd (settleF z c nq) 20) (nI 1)))]) (rest := []) hC (nI (pop5 (deedsThat nd (passN P nq nd (settleF z c nq) 20) (nI 1)))) (c_J6_bitCount_0f7a4 l D cI cZ (deedsThat nd (passN P nq nd (settleF z c nq) 20) (nI 1)) (bts_le hnd)) (va_cwS 1 hC.1.2.2.2.2 gX5_deedsIfSold_J6_bitCount_0f7a4 rfl rfl rfl dS_J6_bitCount_0f7a4 ⟨Nat.le_of_ble_eq_true rfl, Nat.le_of_ble_eq_true rfl⟩) rfl rfl (Nat.le_of_ble_eq_true rfl) dX5_deedsIfSold_26 ⟨Nat.le_of_ble_eq_true rfl, Nat.le_of_ble_eq_true rfl⟩ [] rfl rfl ?_
  subst hQ
  refine g_iret (v := nI (pop5 (deedsThat nd (passN P nq nd (settleF z c nq) 20) (nI 1)))) hC (passN P nq nd (settleF z c nq) 20) hr ?_ rfl dX5_deedsIfSold_29
  rfl

abbrev rm_X5_weightOfSale : Room := { frames := 0, cells := 0, slots := 0, locals := 0 }
set_option maxRecDepth 100000 in
set_option maxHeartbeats 4000000 in
theorem c_X5_weightOfSale (l : Launch) (D : va_G) (cI cZ : ClassId) (z : Nat) (w : Nat) (x : Nat) (hz : z < 32) (hw : w < 32) (hx : x ≤ 10) : CtI l yX5_weightOfSale wsX5_weightOfSale rm_X5_weightOfSale D cI cZ [.int (nI z), .int (nI w), .int (nI x)] [] (fun r (_ : Unit) => r = nI (wtF z w x 5)) (fun (_ : Unit) => []) 0 0 := by
  refine g_startI (ret := (some .int)) (own := RX5) (lv0 := [(0, .int (nI z)), (1, .int (nI w)), (2, .int (nI x))]) (by decide) rfl rfl (Nat.le_of_ble_eq_true rfl) rfl ?_
  intro p e s m args below meth cd A Q hin hr hQ hC
  refine g_iconst (v := nI 1) hC dX5_weightOfSale_0 rfl ?_
  refine g_istore_n (lv' := [(0, .int (nI z)), (1, .int (nI w)), (2, .int (nI x)), (3, .int (nI 1))]) hC [1, 2, 3, 0] dX5_weightOfSale_1 rfl (by decide) rfl ?_
  refine g_iconst (v := nI 0) hC dX5_weightOfSale_2 rfl ?_
  refine g_istore (lv' := [(0, .int (nI z)), (1, .int (nI w)), (2, .int (nI x)), (3, .int (nI 1)), (4, .int (nI 0))]) hC [1, 2, 3, 4, 0] dX5_weightOfSale_3 (by decide) rfl ?_
  have L5 : ∀ (n : Nat) (i : Nat) (t : Nat), (i ≤ 5) → (t = wtF z w x i) → 5 - i < n → G p l e rm_X5_weightOfSale s m args below meth cd D A 0 0 Q 5 [] 5 [(0, .int (nI z)), (1, .int (nI w)), (2, .int (nI x)), (3, .int (nI t)), (4, .int (nI i))] [] := by
    intro n
    induction n with
    | zero => intro i t hi ht hn; exact absurd hn (Nat.not_lt_zero _)
    | succ n ih5 =>
      intro i t hi ht hn
      refine g_iload hC 4 dX5_weightOfSale_5 rfl ?_
      refine g_iconst (v := nI 5) hC dX5_weightOfSale_7 rfl ?_
      refine g_icmp_ge_n (a := i) (b := 5) hC (by omega) (by omega) 48 dX5_weightOfSale_8 (by decide) (fun h8t => ?_) (fun h8f => ?_)
      · refine g_iload_n hC 3 dX5_weightOfSale_48 rfl rfl ?_
        subst hQ
        refine g_iret (v := nI t) hC () hr ?_ rfl dX5_weightOfSale_49
        have ei : i = 5 := by omega
        rw [ei] at ht; rw [ht]
      refine g_iload_n hC 1 dX5_weightOfSale_11 rfl rfl ?_
      refine g_iload hC 4 dX5_weightOfSale_12 rfl ?_
      refine g_ishr_n (a := w) (b := i) hC (by omega) (by omega) dX5_weightOfSale_14 ?_
      refine g_iconst (v := nI 1) hC dX5_weightOfSale_15 rfl ?_
      refine g_iand_n (a := (w / 2 ^ i)) (b := 1) hC dX5_weightOfSale_16 ?_
      refine g_iconst (v := nI 1) hC dX5_weightOfSale_17 rfl ?_
      refine g_icmp_ne_n (a := ((w / 2 ^ i) &&& 1)) (b := 1) hC (by first | exact and1_lt _ | omega) (by first | exact and1_lt _ | omega) 42 dX5_weightOfSale_18 (by decide) (fun h18t => ?_) (fun h18f => ?_)
      · refine g_iinc (v := nI (i + 1)) (lv' := [(0, .int (nI z)), (1, .int (nI w)), (2, .int (nI x)), (3, .int (nI t)), (4, .int (nI (i + 1)))]) hC 4 [1, 2, 3, 4, 0] dX5_weightOfSale_42 rfl (nI_add _ 1) (by decide) rfl ?_
        refine g_goto hC 5 dX5_weightOfSale_45 (by decide) ?_
        refine ih5 (i + 1) t ?_ ?_ ?_
        · omega
        · show _ = wtF z w x i * (if hasB w i then (if hasB z i then x else 10 - x) else 1)
          rw [← ht]
          rw [if_neg h18t, Nat.mul_one]
        · omega
      refine g_iload_n hC 3 dX5_weightOfSale_21 rfl rfl ?_
      refine g_iload_n hC 0 dX5_weightOfSale_22 rfl rfl ?_
      refine g_iload hC 4 dX5_weightOfSale_23 rfl ?_
      refine g_ishr_n (a := z) (b := i) hC (by omega) (by omega) dX5_weightOfSale_25 ?_
      refine g_iconst (v := nI 1) hC dX5_weightOfSale_26 rfl ?_
      refine g_iand_n (a := (z / 2 ^ i)) (b := 1) hC dX5_weightOfSale_27 ?_
      refine g_iconst (v := nI 1) hC dX5_weightOfSale_28 rfl ?_
      refine g_icmp_ne_n (a := ((z / 2 ^ i) &&& 1)) (b := 1) hC (by first | exact and1_lt _ | omega) (by first | exact and1_lt _ | omega) 36 dX5_weightOfSale_29 (by decide) (fun h29t => ?_) (fun h29f => ?_)
      · refine g_bipush (v := nI 10) hC dX5_weightOfSale_36 (by decide +kernel) ?_
        refine g_iload_n hC 2 dX5_weightOfSale_38 rfl rfl ?_
        refine g_isub_n (a := 10) (b := x) hC (by omega) dX5_weightOfSale_39 ?_
        refine g_imul_n (a := t) (b := (10 - x)) hC dX5_weightOfSale_40 ?_
        refine g_istore_n (lv' := [(0, .int (nI z)), (1, .int (nI w)), (2, .int (nI x)), (3, .int (nI (t * (10 - x)))), (4, .int (nI i))]) hC [1, 2, 3, 0, 4] dX5_weightOfSale_41 rfl (by decide) rfl ?_
        refine g_iinc (v := nI (i + 1)) (lv' := [(0, .int (nI z)), (1, .int (nI w)), (2, .int (nI x)), (3, .int (nI (t * (10 - x)))), (4, .int (nI (i + 1)))]) hC 4 [1, 2, 3, 4, 0] dX5_weightOfSale_42 rfl (nI_add _ 1) (by decide) rfl ?_
        refine g_goto hC 5 dX5_weightOfSale_45 (by decide) ?_
        refine ih5 (i + 1) (t * (10 - x)) ?_ ?_ ?_
        · omega
        · show _ = wtF z w x i * (if hasB w i then (if hasB z i then x else 10 - x) else 1)
          rw [← ht]
          rw [if_pos h18f, if_neg h29t]
        · omega
      refine g_iload_n hC 2 dX5_weightOfSale_32 rfl rfl ?_
      refine g_goto hC 40 dX5_weightOfSale_33 (by decide) ?_
      refine g_imul_n (a := t) (b := x) hC dX5_weightOfSale_40 ?_
      refine g_istore_n (lv' := [(0, .int (nI z)), (1, .int (nI w)), (2, .int (nI x)), (3, .int (nI (t * x))), (4, .int (nI i))]) hC [1, 2, 3, 0, 4] dX5_weightOfSale_41 rfl (by decide) rfl ?_
      refine g_iinc (v := nI (i + 1)) (lv' := [(0, .int (nI z)), (1, .int (nI w)), (2, .int (nI x)), (3, .int (nI (t * x))), (4, .int (nI (i + 1)))]) hC 4 [1, 2, 3, 4, 0] dX5_weightOfSale_42 rfl (nI_add _ 1) (by decide) rfl ?_
      refine g_goto hC 5 dX5_weightOfSale_45 (by decide) ?_
      refine ih5 (i + 1) (t * x) ?_ ?_ ?_
      · omega
      · show _ = wtF z w x i * (if hasB w i then (if hasB z i then x else 10 - x) else 1)
        rw [← ht]
        rw [if_pos h18f, if_pos h29f]
      · omega
  refine L5 _ 0 1 ?_ ?_ (Nat.lt_succ_self _)
  · omega
  · rfl

abbrev rm_X5_partOfFraction : Room := { frames := 0, cells := 0, slots := 0, locals := 0 }
set_option maxRecDepth 100000 in
set_option maxHeartbeats 4000000 in
theorem c_X5_partOfFraction (l : Launch) (D : va_G) (cI cZ : ClassId) (o : Nat) (w : Nat) (ub : Nat) (ho : o ≤ 100000) (hw : w ≤ 100000) (hw0 : 0 < w) (hub : ub < 2) : CtI l yX5_partOfFraction wsX5_partOfFraction rm_X5_partOfFraction D cI cZ [.int (nI o), .int (nI w), .int (nI ub)] [] (fun r (_ : Unit) => r = nI (fracR o w ub)) (fun (_ : Unit) => []) 0 0 := by
  refine g_startI (ret := (some .int)) (own := RX5) (lv0 := [(0, .int (nI o)), (1, .int (nI w)), (2, .int (nI ub))]) (by decide) rfl rfl (Nat.le_of_ble_eq_true rfl) rfl ?_
  intro p e s m args below meth cd A Q hin hr hQ hC
  refine g_iload_n hC 1 dX5_partOfFraction_0 rfl rfl ?_
  refine g_istore_n (lv' := [(0, .int (nI o)), (1, .int (nI w)), (2, .int (nI ub)), (3, .int (nI w))]) hC [1, 2, 3, 0] dX5_partOfFraction_1 rfl (by decide) rfl ?_
  refine g_iload_n hC 0 dX5_partOfFraction_2 rfl rfl ?_
  refine g_istore (lv' := [(0, .int (nI o)), (1, .int (nI w)), (2, .int (nI ub)), (3, .int (nI w)), (4, .int (nI o))]) hC [1, 2, 3, 4, 0] dX5_partOfFraction_3 (by decide) rfl ?_
  refine g_iconst (v := nI 0) hC dX5_partOfFraction_5 rfl ?_
  refine g_istore (lv' := [(0, .int (nI o)), (1, .int (nI w)), (2, .int (nI ub)), (3, .int (nI w)), (4, .int (nI o)), (5, .int (nI 0))]) hC [1, 2, 3, 4, 5, 0] dX5_partOfFraction_6 (by decide) rfl ?_
  have L8 : ∀ (n : Nat) (i : Nat) (x : Nat) (y : Nat), (i ≤ 48) → (Nat.gcd x y = Nat.gcd w o) → (eub x y i) → 48 - i < n → G p l e rm_X5_partOfFraction s m args below meth cd D A 0 0 Q 7 [] 8 [(0, .int (nI o)), (1, .int (nI w)), (2, .int (nI ub)), (3, .int (nI x)), (4, .int (nI y)), (5, .int (nI i))] [] := by
    intro n
    induction n with
    | zero => intro i x y hi hg hb2 hn; exact absurd hn (Nat.not_lt_zero _)
    | succ n ih8 =>
      intro i x y hi hg hb2 hn
      refine g_iload hC 5 dX5_partOfFraction_8 rfl ?_
      refine g_bipush (v := nI 48) hC dX5_partOfFraction_10 (by decide +kernel) ?_
      refine g_icmp_ge_n (a := i) (b := 48) hC (by omega) (by omega) 39 dX5_partOfFraction_12 (by decide) (fun h12t => ?_) (fun h12f => ?_)
      · have hy0 : y = 0 := by first | omega | exact eub_e hb2 (by omega)
        have hx : x = Nat.gcd w o := by rw [← hg, hy0, Nat.gcd_zero_right]
        refine g_iload_n hC 3 dX5_partOfFraction_39 rfl rfl ?_
        refine g_if_ne_n (a := x) hC (by have := eub_b hb2; omega) 45 dX5_partOfFraction_40 (by decide) (fun h40t => ?_) (fun h40f => ?_)
        · refine g_iload_n hC 2 dX5_partOfFraction_45 rfl rfl ?_
          refine g_if_eq_n (a := ub) hC (by omega) 53 dX5_partOfFraction_46 (by decide) (fun h46t => ?_) (fun h46f => ?_)
          · refine g_iload_n hC 1 dX5_partOfFraction_53 rfl rfl ?_
            refine g_iload_n hC 3 dX5_partOfFraction_54 rfl rfl ?_
            refine g_idiv_n (a := w) (b := x) hC (by have := eub_b hb2; omega) (by have := eub_b hb2; omega) (by have := eub_b hb2; omega) dX5_partOfFraction_55 ?_
            subst hQ
            refine g_iret (v := nI (w / x)) hC () hr ?_ rfl dX5_partOfFraction_56
            rw [fracR, if_neg (fun q => q h46t), hx]
          refine g_iload_n hC 0 dX5_partOfFraction_49 rfl rfl ?_
          refine g_goto hC 54 dX5_partOfFraction_50 (by decide) ?_
          refine g_iload_n hC 3 dX5_partOfFraction_54 rfl rfl ?_
          refine g_idiv_n (a := o) (b := x) hC (by have := eub_b hb2; omega) (by have := eub_b hb2; omega) (by have := eub_b hb2; omega) dX5_partOfFraction_55 ?_
          subst hQ
          refine g_iret (v := nI (o / x)) hC () hr ?_ rfl dX5_partOfFraction_56
          rw [fracR, if_pos h46f, hx]
        exact absurd h40f (by have := eub_b hb2; omega)
      refine g_iload hC 4 dX5_partOfFraction_15 rfl ?_
      refine g_if_eq_n (a := y) hC (by have := eub_b hb2; omega) 39 dX5_partOfFraction_17 (by decide) (fun h17t => ?_) (fun h17f => ?_)
      · have hy0 : y = 0 := by first | omega | exact eub_e hb2 (by omega)
        have hx : x = Nat.gcd w o := by rw [← hg, hy0, Nat.gcd_zero_right]
        refine g_iload_n hC 3 dX5_partOfFraction_39 rfl rfl ?_
        refine g_if_ne_n (a := x) hC (by have := eub_b hb2; omega) 45 dX5_partOfFraction_40 (by decide) (fun h40t => ?_) (fun h40f => ?_)
        · refine g_iload_n hC 2 dX5_partOfFraction_45 rfl rfl ?_
          refine g_if_eq_n (a := ub) hC (by omega) 53 dX5_partOfFraction_46 (by decide) (fun h46t => ?_) (fun h46f => ?_)
          · refine g_iload_n hC 1 dX5_partOfFraction_53 rfl rfl ?_
            refine g_iload_n hC 3 dX5_partOfFraction_54 rfl rfl ?_
            refine g_idiv_n (a := w) (b := x) hC (by have := eub_b hb2; omega) (by have := eub_b hb2; omega) (by have := eub_b hb2; omega) dX5_partOfFraction_55 ?_
            subst hQ
            refine g_iret (v := nI (w / x)) hC () hr ?_ rfl dX5_partOfFraction_56
            rw [fracR, if_neg (fun q => q h46t), hx]
          refine g_iload_n hC 0 dX5_partOfFraction_49 rfl rfl ?_
          refine g_goto hC 54 dX5_partOfFraction_50 (by decide) ?_
          refine g_iload_n hC 3 dX5_partOfFraction_54 rfl rfl ?_
          refine g_idiv_n (a := o) (b := x) hC (by have := eub_b hb2; omega) (by have := eub_b hb2; omega) (by have := eub_b hb2; omega) dX5_partOfFraction_55 ?_
          subst hQ
          refine g_iret (v := nI (o / x)) hC () hr ?_ rfl dX5_partOfFraction_56
          rw [fracR, if_pos h46f, hx]
        exact absurd h40f (by have := eub_b hb2; omega)
      refine g_iload_n hC 3 dX5_partOfFraction_20 rfl rfl ?_
      refine g_iload hC 4 dX5_partOfFraction_21 rfl ?_
      refine g_irem_n (a := x) (b := y) hC (by have := eub_b hb2; omega) (by have := eub_b hb2; omega) (by have := eub_b hb2; omega) dX5_partOfFraction_23 ?_
      refine g_istore (lv' := [(0, .int (nI o)), (1, .int (nI w)), (2, .int (nI ub)), (3, .int (nI x)), (4, .int (nI y)), (5, .int (nI i)), (6, .int (nI (x % y)))]) hC [1, 2, 3, 4, 5, 6, 0] dX5_partOfFraction_24 (by decide) rfl ?_
      refine g_iload hC 4 dX5_partOfFraction_26 rfl ?_
      refine g_istore_n (lv' := [(0, .int (nI o)), (1, .int (nI w)), (2, .int (nI ub)), (3, .int (nI y)), (4, .int (nI y)), (5, .int (nI i)), (6, .int (nI (x % y)))]) hC [1, 2, 3, 0, 4, 5, 6] dX5_partOfFraction_28 rfl (by decide) rfl ?_
      refine g_iload hC 6 dX5_partOfFraction_29 rfl ?_
      refine g_istore (lv' := [(0, .int (nI o)), (1, .int (nI w)), (2, .int (nI ub)), (3, .int (nI y)), (4, .int (nI (x % y))), (5, .int (nI i)), (6, .int (nI (x % y)))]) hC [1, 2, 3, 4, 0, 5, 6] dX5_partOfFraction_31 (by decide) rfl ?_
      refine g_iinc (v := nI (i + 1)) (lv' := [(0, .int (nI o)), (1, .int (nI w)), (2, .int (nI ub)), (3, .int (nI y)), (4, .int (nI (x % y))), (5, .int (nI (i + 1))), (6, .int (nI (x % y)))]) hC 5 [1, 2, 3, 4, 5, 0, 6] dX5_partOfFraction_33 rfl (nI_add _ 1) (by decide) rfl ?_
      refine g_goto hC 8 dX5_partOfFraction_36 (by decide) ?_
      refine g_lv [0, 1, 2, 3, 4, 5] (lv2 := [(0, .int (nI o)), (1, .int (nI w)), (2, .int (nI ub)), (3, .int (nI y)), (4, .int (nI (x % y))), (5, .int (nI (i + 1)))]) rfl ?_
      refine ih8 (i + 1) y (x % y) ?_ ?_ ?_ ?_
      · omega
      · rw [← hg]; exact eu_gcd (Nat.pos_of_ne_zero h17f)
      · exact eub_s hb2 (Nat.pos_of_ne_zero h17f)
      · omega
  refine L8 _ 0 w o ?_ ?_ ?_ (Nat.lt_succ_self _)
  · omega
  · rfl
  · exact eub_0 hw ho hw0

abbrev rm_X5_raise : Room := { frames := 6, cells := 0, slots := 0, locals := 133 }
set_option maxRecDepth 100000 in
set_option maxHeartbeats 16000000 in
theorem c_X5_raise (l : Launch) (D : va_G) (cI cZ : ClassId) (xo : Nat) (xt : Nat) (xp : Nat) (xd : Nat) (xn : Nat) (xa : Nat) (xc : Nat) (xs : Nat) (xk : Nat) (ks : Int32) (ch : Int64) (xnc : Nat) (c : Nat → Int32) (xgc : Nat) (g : Nat → Int32) (r : Nat → Nat) (ti : Int32) (np : Nat) (nq : Nat) (nd : Nat) (P : Nat → Nat → Nat) (a : Int32) (v : Int32) (w : Int32) (hW : WFP np nq nd P) : CtI l yX5_raise wsX5_raise rm_X5_raise D cI cZ [.ref xo, .int a, .int v, .int w] [(xo, o5 xt xp xd xn xa xc xs xk ks ch), (xn, .inr (3, [.ref xp, .ref xnc])), (xnc, .inl (cI, 20, .inl c)), (xa, .inr (3, [.ref xp, .ref xgc])), (xgc, .inl (cI, 20, .inl g)), (xp, o2 r ti np nq nd), (r 1, .inl (cI, 5, .inl (fun k_ => nI (P 0 k_)))), (r 2, .inl (cI, 5, .inl (fun k_ => nI (P 1 k_)))), (r 3, .inl (cI, 5, .inl (fun k_ => nI (P 2 k_)))), (r 4, .inl (cI, 5, .inl (fun k_ => nI (P 3 k_)))), (r 5, .inl (cI, 5, .inl (fun k_ => nI (P 4 k_)))), (r 6, .inl (cI, 5, .inl (fun k_ => nI (P 5 k_))))] (fun (r : Int32) (g2 : (Nat → Int32)) => r = raiseR np nq nd P c a v w) (fun (g2 : (Nat → Int32)) => [(xo, o5 xt xp xd xn xa xc xs xk ks ch), (xn, .inr (3, [.ref xp, .ref xnc])), (xnc, .inl (cI, 20, .inl c)), (xa, .inr (3, [.ref xp, .ref xgc])), (xgc, .inl (cI, 20, .inl g2)), (xp, o2 r ti np nq nd), (r 1, .inl (cI, 5, .inl (fun k_ => nI (P 0 k_)))), (r 2, .inl (cI, 5, .inl (fun k_ => nI (P 1 k_)))), (r 3, .inl (cI, 5, .inl (fun k_ => nI (P 2 k_)))), (r 4, .inl (cI, 5, .inl (fun k_ => nI (P 3 k_)))), (r 5, .inl (cI, 5, .inl (fun k_ => nI (P 4 k_)))), (r 6, .inl (cI, 5, .inl (fun k_ => nI (P 5 k_))))]) 0 0 := by
  refine g_startI (ret := (some .int)) (own := RX5) (lv0 := [(0, .ref xo), (1, .int a), (2, .int v), (3, .int w)]) (by decide) rfl rfl (Nat.le_of_ble_eq_true rfl) rfl ?_
  intro p e s m args below meth cd A Q hin hr hQ hC
  have hcw5 : ∀ w ∈ wsX50, w ∈ wsX5_raise := fun _ h => List.mem_cons_of_mem _ (List.mem_append_left _ (List.mem_append_left _ (List.mem_append_right _ h)))
  have w1 := hC.1.2.2.2.2 (.fieldLink "PluckBroker" 19 "PluckBroker" "plan" "LPluckBroker$Plan;") (List.mem_of_getElem? (i := 1) rfl)
  obtain ⟨⟨hnp, hnq, hnd⟩, hq4, hd5⟩ := id hW
  refine g_aload_n hC 0 dX5_raise_0 rfl rfl ?_
  refine g_get (C := RX5) (T := TX5) (N := 10) (ci := 5) (v := .ref xp) hC hcw5 0 rfl rfl 1 (by decide) w1 (fun _ h => h) rfl dX5_raise_1 ?_
  refine g_iload_n hC 1 dX5_raise_4 rfl rfl ?_
  refine g_callVip (As := [.int a]) (rest := []) hC (bI (inR a np)) (c_X2_hasPerson l D cI cZ xp r ti np nq nd a (by omega)) (cwV 1 hC.1.2.2.2.2 gX5_raise_X2_hasPerson rfl rfl rfl dV_X2_hasPerson ⟨Nat.le_of_ble_eq_true rfl, Nat.le_of_ble_eq_true rfl⟩) rfl rfl rfl rfl (Nat.le_of_ble_eq_true rfl) dX5_raise_5 ⟨Nat.le_of_ble_eq_true rfl, Nat.le_of_ble_eq_true rfl⟩ [5] rfl rfl ?_
  refine g_if_ne_b hC 13 dX5_raise_8 (by decide) (fun h8t => ?_) (fun h8f => ?_)
  · obtain ⟨k, hk, rfl⟩ := inR_n (by omega) h8t
    have hin2 := inR_k (n := np) (by omega) hk
    have hKk : K (nI k) = k := K_n (by omega)
    refine g_iload_n hC 2 dX5_raise_13 rfl rfl ?_
    refine g_if_lt hC 30 dX5_raise_14 (by decide) (fun h14t => ?_) (fun h14f => ?_)
    · refine g_bipush (v := (-2)) hC dX5_raise_30 (by decide +kernel) ?_
      subst hQ
      refine g_iret (v := -2) hC (g) hr ?_ rfl dX5_raise_32
      rw [raiseR, if_pos hin2, if_neg (fun q => absurd q.1.1 (Int32.not_le.mpr h14t))]
    refine g_iload_n hC 2 dX5_raise_17 rfl rfl ?_
    refine g_bipush (v := nI 60) hC dX5_raise_18 (by decide +kernel) ?_
    refine g_icmp_gt hC 30 dX5_raise_20 (by decide) (fun h20t => ?_) (fun h20f => ?_)
    · refine g_bipush (v := (-2)) hC dX5_raise_30 (by decide +kernel) ?_
      subst hQ
      refine g_iret (v := -2) hC (g) hr ?_ rfl dX5_raise_32
      rw [raiseR, if_pos hin2, if_neg (fun q => absurd q.1.2 (Int32.not_le.mpr h20t))]
    refine g_iload_n hC 3 dX5_raise_23 rfl rfl ?_
    refine g_callSip (As := [.int w]) (rest := []) hC (bI (¬ okC w)) (c_X5_isNoChoice l D cI cZ w) (va_cwS 1 hC.1.2.2.2.2 gX5_raise_X5_isNoChoice rfl rfl rfl dS_X5_isNoChoice ⟨Nat.le_of_ble_eq_true rfl, Nat.le_of_ble_eq_true rfl⟩) rfl rfl (Nat.le_of_ble_eq_true rfl) dX5_raise_24 ⟨Nat.le_of_ble_eq_true rfl, Nat.le_of_ble_eq_true rfl⟩ [] rfl rfl ?_
    refine g_if_eq_b hC 33 dX5_raise_27 (by decide) (fun h27t => ?_) (fun h27f => ?_)
    · obtain ⟨wn, hwn, rfl⟩ := ok_n (M := 1) (by decide) (Decidable.not_not.mp h27t)
      have okw : okC (nI wn) := ok_k (M := 1) (by decide) hwn
      refine g_bipush (v := (-9)) hC dX5_raise_33 (by decide +kernel) ?_
      refine g_istore (lv' := [(0, .ref xo), (1, .int (nI k)), (2, .int v), (3, .int (nI wn)), (4, .int (-9))]) hC [1, 2, 3, 4, 0] dX5_raise_35 (by decide) rfl ?_
      refine g_bipush (v := (-9)) hC dX5_raise_37 (by decide +kernel) ?_
      refine g_istore (lv' := [(0, .ref xo), (1, .int (nI k)), (2, .int v), (3, .int (nI wn)), (4, .int (-9)), (5, .int (-9))]) hC [1, 2, 3, 4, 5, 0] dX5_raise_39 (by decide) rfl ?_
      refine g_iconst (v := nI 0) hC dX5_raise_41 rfl ?_
      refine g_istore (lv' := [(0, .ref xo), (1, .int (nI k)), (2, .int v), (3, .int (nI wn)), (4, .int (-9)), (5, .int (-9)), (6, .int (nI 0))]) hC [1, 2, 3, 4, 5, 6, 0] dX5_raise_42 (by decide) rfl ?_
      have L44 : ∀ (n : Nat) (i : Nat) (x4 : Int32) (x5 : Int32) (gg : Nat → Int32), (i ≤ 32) → (x4 = oI ((raF P nq nd c k v i).map Prod.fst)) → (x5 = oI ((raF P nq nd c k v i).map Prod.snd)) → 32 - i < n → G p l e rm_X5_raise s m args below meth cd D A 0 0 Q 9 [(xo, o5 xt xp xd xn xa xc xs xk ks ch), (xn, .inr (3, [.ref xp, .ref xnc])), (xnc, .inl (cI, 20, .inl c)), (xa, .inr (3, [.ref xp, .ref xgc])), (xgc, .inl (cI, 20, .inl gg)), (xp, o2 r ti np nq nd), (r 1, .inl (cI, 5, .inl (fun k_ => nI (P 0 k_)))), (r 2, .inl (cI, 5, .inl (fun k_ => nI (P 1 k_)))), (r 3, .inl (cI, 5, .inl (fun k_ => nI (P 2 k_)))), (r 4, .inl (cI, 5, .inl (fun k_ => nI (P 3 k_)))), (r 5, .inl (cI, 5, .inl (fun k_ => nI (P 4 k_)))), (r 6, .inl (cI, 5, .inl (fun k_ => nI (P 5 k_))))] 44 [(0, .ref xo), (1, .int (nI k)), (2, .int v), (3, .int (nI wn)), (4, .int x4), (5, .int x5), (6, .int (nI i))] [] := by
        intro n
        induction n with
        | zero => intro i x4 x5 gg hi hx4 hx5 hn; exact absurd hn (Nat.not_lt_zero _)
        | succ n ih44 =>
          intro i x4 x5 gg hi hx4 hx5 hn
          refine g_iload hC 6 dX5_raise_44 rfl ?_
          refine g_bipush (v := nI 32) hC dX5_raise_46 (by decide +kernel) ?_
          refine g_icmp_ge_n (a := i) (b := 32) hC (by omega) (by omega) 121 dX5_raise_48 (by decide) (fun h48t => ?_) (fun h48f => ?_)
          · have ei : i = 32 := by omega
            rw [ei] at hx4 hx5
            refine g_iload_n hC 3 dX5_raise_121 rfl rfl ?_
            refine g_if_ne_n (a := wn) hC (by omega) 130 dX5_raise_122 (by decide) (fun h122t => ?_) (fun h122f => ?_)
            · refine g_iload hC 5 dX5_raise_130 rfl ?_
              subst hQ
              refine g_iret (v := x5) hC (gg) hr ?_ rfl dX5_raise_132
              rw [raiseR, if_pos hin2, if_pos ⟨⟨Int32.not_lt.mp h14f, Int32.not_lt.mp h20f⟩, okw⟩, hKk, if_neg (fun q => h122t ((nI_eq (by omega) (by decide)).mp q))]; exact hx5
            refine g_iload hC 4 dX5_raise_125 rfl ?_
            refine g_goto hC 132 dX5_raise_127 (by decide) ?_
            subst hQ
            refine g_iret (v := x4) hC (gg) hr ?_ rfl dX5_raise_132
            rw [raiseR, if_pos hin2, if_pos ⟨⟨Int32.not_lt.mp h14f, Int32.not_lt.mp h20f⟩, okw⟩, hKk, if_pos (by rw [h122f])]; exact hx4
          refine g_aload_n hC 0 dX5_raise_51 rfl rfl ?_
          refine g_iload hC 6 dX5_raise_52 rfl ?_
          refine g_iload_n hC 1 dX5_raise_54 rfl rfl ?_
          refine g_iload_n hC 2 dX5_raise_55 rfl rfl ?_
          refine g_callVi (As := [.int (nI i), .int (nI k), .int v]) (rest := []) hC (c_X5_deedsIfPledged l D cI cZ xo xt xp xd xn xa xc xs xk ks ch xnc c xgc gg r ti np nq nd P i k v (by first | assumption | omega) h48f hk) (cwV 3 hC.1.2.2.2.2 gX5_raise_X5_deedsIfPledged rfl rfl rfl dV_X5_deedsIfPledged ⟨Nat.le_of_ble_eq_true rfl, Nat.le_of_ble_eq_true rfl⟩) rfl rfl rfl rfl (Nat.le_of_ble_eq_true rfl) dX5_raise_56 ⟨Nat.le_of_ble_eq_true rfl, Nat.le_of_ble_eq_true rfl⟩ [0, 1, 2, 3, 4, 5, 6, 7, 8, 9, 10, 11] [] [0, 1, 2, 3, 4, 5, 6, 7, 8, 9, 10, 11] (fun (g2_1 : Nat → Int32) => [(xo, o5 xt xp xd xn xa xc xs xk ks ch), (xn, .inr (3, [.ref xp, .ref xnc])), (xnc, .inl (cI, 20, .inl c)), (xa, .inr (3, [.ref xp, .ref xgc])), (xgc, .inl (cI, 20, .inl g2_1)), (xp, o2 r ti np nq nd), (r 1, .inl (cI, 5, .inl (fun k_ => nI (P 0 k_)))), (r 2, .inl (cI, 5, .inl (fun k_ => nI (P 1 k_)))), (r 3, .inl (cI, 5, .inl (fun k_ => nI (P 2 k_)))), (r 4, .inl (cI, 5, .inl (fun k_ => nI (P 3 k_)))), (r 5, .inl (cI, 5, .inl (fun k_ => nI (P 4 k_)))), (r 6, .inl (cI, 5, .inl (fun k_ => nI (P 5 k_))))]) rfl rfl rfl (fun _ => rfl) (fun r56 z56 hp56 => ?_)
          obtain ⟨g2_1, rfl⟩ : ∃ y, y = z56 := ⟨_, rfl⟩
          try dsimp only at hp56
          refine g_is (ws2 := [(xo, o5 xt xp xd xn xa xc xs xk ks ch), (xn, .inr (3, [.ref xp, .ref xnc])), (xnc, .inl (cI, 20, .inl c)), (xa, .inr (3, [.ref xp, .ref xgc])), (xgc, .inl (cI, 20, .inl g2_1)), (xp, o2 r ti np nq nd), (r 1, .inl (cI, 5, .inl (fun k_ => nI (P 0 k_)))), (r 2, .inl (cI, 5, .inl (fun k_ => nI (P 1 k_)))), (r 3, .inl (cI, 5, .inl (fun k_ => nI (P 2 k_)))), (r 4, .inl (cI, 5, .inl (fun k_ => nI (P 3 k_)))), (r 5, .inl (cI, 5, .inl (fun k_ => nI (P 4 k_)))), (r 6, .inl (cI, 5, .inl (fun k_ => nI (P 5 k_))))]) (lv2 := [(0, .ref xo), (1, .int (nI k)), (2, .int v), (3, .int (nI wn)), (4, .int x4), (5, .int x5), (6, .int (nI i))]) (st2 := [.int r56]) rfl rfl rfl ?_
          refine g_top (y := oI (ifPl P nq nd c k i v)) hp56 ?_
          refine g_istore (lv' := [(0, .ref xo), (1, .int (nI k)), (2, .int v), (3, .int (nI wn)), (4, .int x4), (5, .int x5), (6, .int (nI i)), (7, .int (oI (ifPl P nq nd c k i v)))]) hC [1, 2, 3, 4, 5, 6, 7, 0] dX5_raise_59 (by decide) rfl ?_
          by_cases hq1 : ifPl P nq nd c k i v ≠ none
          · obtain ⟨d, hd1s⟩ := Option.ne_none_iff_exists'.mp hq1
            have hd5 := ifPl_le hd1s
            have elv : (oI (ifPl P nq nd c k i v)) = nI d := by rw [hd1s]; rfl
            refine g_lve (congrArg (fun zz : Int32 => ([(0, .ref xo), (1, .int (nI k)), (2, .int v), (3, .int (nI wn)), (4, .int x4), (5, .int x5), (6, .int (nI i)), (7, .int zz)] : List (Nat × Value))) elv) ?_
            by_cases hq2 : raF P nq nd c k v i ≠ none
            · obtain ⟨⟨b, m2⟩, hd2s⟩ := Option.ne_none_iff_exists'.mp hq2
              have hbm := raF_lt i hd2s
              have elv : x4 = nI b := by rw [hx4, hd2s]; rfl
              refine g_lve (congrArg (fun zz : Int32 => ([(0, .ref xo), (1, .int (nI k)), (2, .int v), (3, .int (nI wn)), (4, .int zz), (5, .int x5), (6, .int (nI i)), (7, .int (nI d))] : List (Nat × Value))) elv) ?_
              have elv : x5 = nI m2 := by rw [hx5, hd2s]; rfl
              refine g_lve (congrArg (fun zz : Int32 => ([(0, .ref xo), (1, .int (nI k)), (2, .int v), (3, .int (nI wn)), (4, .int (nI b)), (5, .int zz), (6, .int (nI i)), (7, .int (nI d))] : List (Nat × Value))) elv) ?_
              refine g_iload hC 7 dX5_raise_61 rfl ?_
              refine g_iload hC 5 dX5_raise_63 rfl ?_
              refine g_icmp_ne_n (a := d) (b := m2) hC (by omega) (by omega) 85 dX5_raise_65 (by decide) (fun h65t => ?_) (fun h65f => ?_)
              · refine g_iconst (v := nI 0) hC dX5_raise_85 rfl ?_
                refine g_istore (lv' := [(0, .ref xo), (1, .int (nI k)), (2, .int v), (3, .int (nI wn)), (4, .int (nI b)), (5, .int (nI m2)), (6, .int (nI i)), (7, .int (nI d)), (8, .int (nI 0))]) hC [1, 2, 3, 4, 5, 6, 7, 8, 0] dX5_raise_86 (by decide) rfl ?_
                refine g_iload hC 7 dX5_raise_88 rfl ?_
                refine g_bipush (v := (-9)) hC dX5_raise_90 (by decide +kernel) ?_
                refine g_icmp_eq hC 115 dX5_raise_92 (by decide) (fun h92t => ?_) (fun h92f => ?_)
                · exact absurd h92t (nI_ne9 (by omega))
                refine g_iload hC 7 dX5_raise_95 rfl ?_
                refine g_iload hC 5 dX5_raise_97 rfl ?_
                refine g_icmp_gt_n (a := d) (b := m2) hC (by omega) (by omega) 107 dX5_raise_99 (by decide) (fun h99t => ?_) (fun h99f => ?_)
                · refine g_iload hC 6 dX5_raise_107 rfl ?_
                  refine g_istore (lv' := [(0, .ref xo), (1, .int (nI k)), (2, .int v), (3, .int (nI wn)), (4, .int (nI i)), (5, .int (nI m2)), (6, .int (nI i)), (7, .int (nI d)), (8, .int (nI 0))]) hC [1, 2, 3, 4, 0, 5, 6, 7, 8] dX5_raise_109 (by decide) rfl ?_
                  refine g_iload hC 7 dX5_raise_111 rfl ?_
                  refine g_istore (lv' := [(0, .ref xo), (1, .int (nI k)), (2, .int v), (3, .int (nI wn)), (4, .int (nI i)), (5, .int (nI d)), (6, .int (nI i)), (7, .int (nI d)), (8, .int (nI 0))]) hC [1, 2, 3, 4, 5, 0, 6, 7, 8] dX5_raise_113 (by decide) rfl ?_
                  refine g_iinc (v := nI (i + 1)) (lv' := [(0, .ref xo), (1, .int (nI k)), (2, .int v), (3, .int (nI wn)), (4, .int (nI i)), (5, .int (nI d)), (6, .int (nI (i + 1))), (7, .int (nI d)), (8, .int (nI 0))]) hC 6 [1, 2, 3, 4, 5, 6, 0, 7, 8] dX5_raise_115 rfl (nI_add _ 1) (by decide) rfl ?_
                  refine g_goto hC 44 dX5_raise_118 (by decide) ?_
                  refine g_lv [0, 1, 2, 3, 4, 5, 6] (lv2 := [(0, .ref xo), (1, .int (nI k)), (2, .int v), (3, .int (nI wn)), (4, .int (nI i)), (5, .int (nI d)), (6, .int (nI (i + 1)))]) rfl ?_
                  refine ih44 (i + 1) (nI i) (nI d) g2_1 ?_ ?_ ?_ ?_
                  · omega
                  · have er : raF P nq nd c k v (i + 1) = (match ifPl P nq nd c k i v with | none => raF P nq nd c k v i | some d => match raF P nq nd c k v i with | none => some (i, d) | some (b, m) => if m < d ∨ (d = m ∧ pop5 i < pop5 b) then some (i, d) else some (b, m)) := rfl
                    rw [er, hd1s, hd2s]; show _ = oI (((if m2 < d ∨ (d = m2 ∧ pop5 i < pop5 b) then some (i, d) else some (b, m2)) : Option (Nat × Nat)).map Prod.fst)
                    rw [if_pos (by omega)]; rfl
                  · have er : raF P nq nd c k v (i + 1) = (match ifPl P nq nd c k i v with | none => raF P nq nd c k v i | some d => match raF P nq nd c k v i with | none => some (i, d) | some (b, m) => if m < d ∨ (d = m ∧ pop5 i < pop5 b) then some (i, d) else some (b, m)) := rfl
                    rw [er, hd1s, hd2s]; show _ = oI (((if m2 < d ∨ (d = m2 ∧ pop5 i < pop5 b) then some (i, d) else some (b, m2)) : Option (Nat × Nat)).map Prod.snd)
                    rw [if_pos (by omega)]; rfl
                  · omega
                refine g_iload hC 8 dX5_raise_102 rfl ?_
                refine g_if_eq_n (a := 0) hC (by omega) 115 dX5_raise_104 (by decide) (fun _ => ?_) (fun q => absurd q (by decide))
                refine g_iinc (v := nI (i + 1)) (lv' := [(0, .ref xo), (1, .int (nI k)), (2, .int v), (3, .int (nI wn)), (4, .int (nI b)), (5, .int (nI m2)), (6, .int (nI (i + 1))), (7, .int (nI d)), (8, .int (nI 0))]) hC 6 [1, 2, 3, 4, 5, 6, 0, 7, 8] dX5_raise_115 rfl (nI_add _ 1) (by decide) rfl ?_
                refine g_goto hC 44 dX5_raise_118 (by decide) ?_
                refine g_lv [0, 1, 2, 3, 4, 5, 6] (lv2 := [(0, .ref xo), (1, .int (nI k)), (2, .int v), (3, .int (nI wn)), (4, .int (nI b)), (5, .int (nI m2)), (6, .int (nI (i + 1)))]) rfl ?_
                refine ih44 (i + 1) (nI b) (nI m2) g2_1 ?_ ?_ ?_ ?_
                · omega
                · have er : raF P nq nd c k v (i + 1) = (match ifPl P nq nd c k i v with | none => raF P nq nd c k v i | some d => match raF P nq nd c k v i with | none => some (i, d) | some (b, m) => if m < d ∨ (d = m ∧ pop5 i < pop5 b) then some (i, d) else some (b, m)) := rfl
                  rw [er, hd1s, hd2s]; show _ = oI (((if m2 < d ∨ (d = m2 ∧ pop5 i < pop5 b) then some (i, d) else some (b, m2)) : Option (Nat × Nat)).map Prod.fst)
                  rw [if_neg (by omega)]; rfl
                · have er : raF P nq nd c k v (i + 1) = (match ifPl P nq nd c k i v with | none => raF P nq nd c k v i | some d => match raF P nq nd c k v i with | none => some (i, d) | some (b, m) => if m < d ∨ (d = m ∧ pop5 i < pop5 b) then some (i, d) else some (b, m)) := rfl
                  rw [er, hd1s, hd2s]; show _ = oI (((if m2 < d ∨ (d = m2 ∧ pop5 i < pop5 b) then some (i, d) else some (b, m2)) : Option (Nat × Nat)).map Prod.snd)
                  rw [if_neg (by omega)]; rfl
                · omega
              refine g_iload hC 6 dX5_raise_68 rfl ?_
              refine g_callSip (As := [.int (nI i)]) (rest := []) hC (nI (pop5 i)) (c_J6_bitCount_0f7a4 l D cI cZ i (by first | assumption | omega)) (va_cwS 1 hC.1.2.2.2.2 gX5_raise_J6_bitCount_0f7a4 rfl rfl rfl dS_J6_bitCount_0f7a4 ⟨Nat.le_of_ble_eq_true rfl, Nat.le_of_ble_eq_true rfl⟩) rfl rfl (Nat.le_of_ble_eq_true rfl) dX5_raise_70 ⟨Nat.le_of_ble_eq_true rfl, Nat.le_of_ble_eq_true rfl⟩ [] rfl rfl ?_
              refine g_iload hC 4 dX5_raise_73 rfl ?_
              refine g_callSip (As := [.int (nI b)]) (rest := [.int (nI (pop5 i))]) hC (nI (pop5 b)) (c_J6_bitCount_0f7a4 l D cI cZ b (by first | assumption | omega)) (va_cwS 1 hC.1.2.2.2.2 gX5_raise_J6_bitCount_0f7a4 rfl rfl rfl dS_J6_bitCount_0f7a4 ⟨Nat.le_of_ble_eq_true rfl, Nat.le_of_ble_eq_true rfl⟩) rfl rfl (Nat.le_of_ble_eq_true rfl) dX5_raise_75 ⟨Nat.le_of_ble_eq_true rfl, Nat.le_of_ble_eq_true rfl⟩ [] rfl rfl ?_
              refine g_icmp_ge_n (a := (pop5 i)) (b := (pop5 b)) hC (by have := pop5_le i (by omega); first | omega | (have := pop5_le b (by omega); omega)) (by have := pop5_le i (by omega); first | omega | (have := pop5_le b (by omega); omega)) 85 dX5_raise_78 (by decide) (fun h78t => ?_) (fun h78f => ?_)
              · refine g_iconst (v := nI 0) hC dX5_raise_85 rfl ?_
                refine g_istore (lv' := [(0, .ref xo), (1, .int (nI k)), (2, .int v), (3, .int (nI wn)), (4, .int (nI b)), (5, .int (nI m2)), (6, .int (nI i)), (7, .int (nI d)), (8, .int (nI 0))]) hC [1, 2, 3, 4, 5, 6, 7, 8, 0] dX5_raise_86 (by decide) rfl ?_
                refine g_iload hC 7 dX5_raise_88 rfl ?_
                refine g_bipush (v := (-9)) hC dX5_raise_90 (by decide +kernel) ?_
                refine g_icmp_eq hC 115 dX5_raise_92 (by decide) (fun h92t => ?_) (fun h92f => ?_)
                · exact absurd h92t (nI_ne9 (by omega))
                refine g_iload hC 7 dX5_raise_95 rfl ?_
                refine g_iload hC 5 dX5_raise_97 rfl ?_
                refine g_icmp_gt_n (a := d) (b := m2) hC (by omega) (by omega) 107 dX5_raise_99 (by decide) (fun h99t => ?_) (fun h99f => ?_)
                · refine g_iload hC 6 dX5_raise_107 rfl ?_
                  refine g_istore (lv' := [(0, .ref xo), (1, .int (nI k)), (2, .int v), (3, .int (nI wn)), (4, .int (nI i)), (5, .int (nI m2)), (6, .int (nI i)), (7, .int (nI d)), (8, .int (nI 0))]) hC [1, 2, 3, 4, 0, 5, 6, 7, 8] dX5_raise_109 (by decide) rfl ?_
                  refine g_iload hC 7 dX5_raise_111 rfl ?_
                  refine g_istore (lv' := [(0, .ref xo), (1, .int (nI k)), (2, .int v), (3, .int (nI wn)), (4, .int (nI i)), (5, .int (nI d)), (6, .int (nI i)), (7, .int (nI d)), (8, .int (nI 0))]) hC [1, 2, 3, 4, 5, 0, 6, 7, 8] dX5_raise_113 (by decide) rfl ?_
                  refine g_iinc (v := nI (i + 1)) (lv' := [(0, .ref xo), (1, .int (nI k)), (2, .int v), (3, .int (nI wn)), (4, .int (nI i)), (5, .int (nI d)), (6, .int (nI (i + 1))), (7, .int (nI d)), (8, .int (nI 0))]) hC 6 [1, 2, 3, 4, 5, 6, 0, 7, 8] dX5_raise_115 rfl (nI_add _ 1) (by decide) rfl ?_
                  refine g_goto hC 44 dX5_raise_118 (by decide) ?_
                  refine g_lv [0, 1, 2, 3, 4, 5, 6] (lv2 := [(0, .ref xo), (1, .int (nI k)), (2, .int v), (3, .int (nI wn)), (4, .int (nI i)), (5, .int (nI d)), (6, .int (nI (i + 1)))]) rfl ?_
                  refine ih44 (i + 1) (nI i) (nI d) g2_1 ?_ ?_ ?_ ?_
                  · omega
                  · have er : raF P nq nd c k v (i + 1) = (match ifPl P nq nd c k i v with | none => raF P nq nd c k v i | some d => match raF P nq nd c k v i with | none => some (i, d) | some (b, m) => if m < d ∨ (d = m ∧ pop5 i < pop5 b) then some (i, d) else some (b, m)) := rfl
                    rw [er, hd1s, hd2s]; show _ = oI (((if m2 < d ∨ (d = m2 ∧ pop5 i < pop5 b) then some (i, d) else some (b, m2)) : Option (Nat × Nat)).map Prod.fst)
                    rw [if_pos (by omega)]; rfl
                  · have er : raF P nq nd c k v (i + 1) = (match ifPl P nq nd c k i v with | none => raF P nq nd c k v i | some d => match raF P nq nd c k v i with | none => some (i, d) | some (b, m) => if m < d ∨ (d = m ∧ pop5 i < pop5 b) then some (i, d) else some (b, m)) := rfl
                    rw [er, hd1s, hd2s]; show _ = oI (((if m2 < d ∨ (d = m2 ∧ pop5 i < pop5 b) then some (i, d) else some (b, m2)) : Option (Nat × Nat)).map Prod.snd)
                    rw [if_pos (by omega)]; rfl
                  · omega
                refine g_iload hC 8 dX5_raise_102 rfl ?_
                refine g_if_eq_n (a := 0) hC (by omega) 115 dX5_raise_104 (by decide) (fun _ => ?_) (fun q => absurd q (by decide))
                refine g_iinc (v := nI (i + 1)) (lv' := [(0, .ref xo), (1, .int (nI k)), (2, .int v), (3, .int (nI wn)), (4, .int (nI b)), (5, .int (nI m2)), (6, .int (nI (i + 1))), (7, .int (nI d)), (8, .int (nI 0))]) hC 6 [1, 2, 3, 4, 5, 6, 0, 7, 8] dX5_raise_115 rfl (nI_add _ 1) (by decide) rfl ?_
                refine g_goto hC 44 dX5_raise_118 (by decide) ?_
                refine g_lv [0, 1, 2, 3, 4, 5, 6] (lv2 := [(0, .ref xo), (1, .int (nI k)), (2, .int v), (3, .int (nI wn)), (4, .int (nI b)), (5, .int (nI m2)), (6, .int (nI (i + 1)))]) rfl ?_
                refine ih44 (i + 1) (nI b) (nI m2) g2_1 ?_ ?_ ?_ ?_
                · omega
                · have er : raF P nq nd c k v (i + 1) = (match ifPl P nq nd c k i v with | none => raF P nq nd c k v i | some d => match raF P nq nd c k v i with | none => some (i, d) | some (b, m) => if m < d ∨ (d = m ∧ pop5 i < pop5 b) then some (i, d) else some (b, m)) := rfl
                  rw [er, hd1s, hd2s]; show _ = oI (((if m2 < d ∨ (d = m2 ∧ pop5 i < pop5 b) then some (i, d) else some (b, m2)) : Option (Nat × Nat)).map Prod.fst)
                  rw [if_neg (by omega)]; rfl
                · have er : raF P nq nd c k v (i + 1) = (match ifPl P nq nd c k i v with | none => raF P nq nd c k v i | some d => match raF P nq nd c k v i with | none => some (i, d) | some (b, m) => if m < d ∨ (d = m ∧ pop5 i < pop5 b) then some (i, d) else some (b, m)) := rfl
                  rw [er, hd1s, hd2s]; show _ = oI (((if m2 < d ∨ (d = m2 ∧ pop5 i < pop5 b) then some (i, d) else some (b, m2)) : Option (Nat × Nat)).map Prod.snd)
                  rw [if_neg (by omega)]; rfl
                · omega
              refine g_iconst (v := nI 1) hC dX5_raise_81 rfl ?_
              refine g_goto hC 86 dX5_raise_82 (by decide) ?_
              refine g_istore (lv' := [(0, .ref xo), (1, .int (nI k)), (2, .int v), (3, .int (nI wn)), (4, .int (nI b)), (5, .int (nI m2)), (6, .int (nI i)), (7, .int (nI d)), (8, .int (nI 1))]) hC [1, 2, 3, 4, 5, 6, 7, 8, 0] dX5_raise_86 (by decide) rfl ?_
              refine g_iload hC 7 dX5_raise_88 rfl ?_
              refine g_bipush (v := (-9)) hC dX5_raise_90 (by decide +kernel) ?_
              refine g_icmp_eq hC 115 dX5_raise_92 (by decide) (fun h92t => ?_) (fun h92f => ?_)
              · exact absurd h92t (nI_ne9 (by omega))
              refine g_iload hC 7 dX5_raise_95 rfl ?_
              refine g_iload hC 5 dX5_raise_97 rfl ?_
              refine g_icmp_gt_n (a := d) (b := m2) hC (by omega) (by omega) 107 dX5_raise_99 (by decide) (fun h99t => ?_) (fun h99f => ?_)
              · refine g_iload hC 6 dX5_raise_107 rfl ?_
                refine g_istore (lv' := [(0, .ref xo), (1, .int (nI k)), (2, .int v), (3, .int (nI wn)), (4, .int (nI i)), (5, .int (nI m2)), (6, .int (nI i)), (7, .int (nI d)), (8, .int (nI 1))]) hC [1, 2, 3, 4, 0, 5, 6, 7, 8] dX5_raise_109 (by decide) rfl ?_
                refine g_iload hC 7 dX5_raise_111 rfl ?_
                refine g_istore (lv' := [(0, .ref xo), (1, .int (nI k)), (2, .int v), (3, .int (nI wn)), (4, .int (nI i)), (5, .int (nI d)), (6, .int (nI i)), (7, .int (nI d)), (8, .int (nI 1))]) hC [1, 2, 3, 4, 5, 0, 6, 7, 8] dX5_raise_113 (by decide) rfl ?_
                refine g_iinc (v := nI (i + 1)) (lv' := [(0, .ref xo), (1, .int (nI k)), (2, .int v), (3, .int (nI wn)), (4, .int (nI i)), (5, .int (nI d)), (6, .int (nI (i + 1))), (7, .int (nI d)), (8, .int (nI 1))]) hC 6 [1, 2, 3, 4, 5, 6, 0, 7, 8] dX5_raise_115 rfl (nI_add _ 1) (by decide) rfl ?_
                refine g_goto hC 44 dX5_raise_118 (by decide) ?_
                refine g_lv [0, 1, 2, 3, 4, 5, 6] (lv2 := [(0, .ref xo), (1, .int (nI k)), (2, .int v), (3, .int (nI wn)), (4, .int (nI i)), (5, .int (nI d)), (6, .int (nI (i + 1)))]) rfl ?_
                refine ih44 (i + 1) (nI i) (nI d) g2_1 ?_ ?_ ?_ ?_
                · omega
                · have er : raF P nq nd c k v (i + 1) = (match ifPl P nq nd c k i v with | none => raF P nq nd c k v i | some d => match raF P nq nd c k v i with | none => some (i, d) | some (b, m) => if m < d ∨ (d = m ∧ pop5 i < pop5 b) then some (i, d) else some (b, m)) := rfl
                  rw [er, hd1s, hd2s]; show _ = oI (((if m2 < d ∨ (d = m2 ∧ pop5 i < pop5 b) then some (i, d) else some (b, m2)) : Option (Nat × Nat)).map Prod.fst)
                  rw [if_pos (by omega)]; rfl
                · have er : raF P nq nd c k v (i + 1) = (match ifPl P nq nd c k i v with | none => raF P nq nd c k v i | some d => match raF P nq nd c k v i with | none => some (i, d) | some (b, m) => if m < d ∨ (d = m ∧ pop5 i < pop5 b) then some (i, d) else some (b, m)) := rfl
                  rw [er, hd1s, hd2s]; show _ = oI (((if m2 < d ∨ (d = m2 ∧ pop5 i < pop5 b) then some (i, d) else some (b, m2)) : Option (Nat × Nat)).map Prod.snd)
                  rw [if_pos (by omega)]; rfl
                · omega
              refine g_iload hC 8 dX5_raise_102 rfl ?_
              refine g_if_eq_n (a := 1) hC (by omega) 115 dX5_raise_104 (by decide) (fun q => absurd q (by decide)) (fun _ => ?_)
              refine g_iload hC 6 dX5_raise_107 rfl ?_
              refine g_istore (lv' := [(0, .ref xo), (1, .int (nI k)), (2, .int v), (3, .int (nI wn)), (4, .int (nI i)), (5, .int (nI m2)), (6, .int (nI i)), (7, .int (nI d)), (8, .int (nI 1))]) hC [1, 2, 3, 4, 0, 5, 6, 7, 8] dX5_raise_109 (by decide) rfl ?_
              refine g_iload hC 7 dX5_raise_111 rfl ?_
              refine g_istore (lv' := [(0, .ref xo), (1, .int (nI k)), (2, .int v), (3, .int (nI wn)), (4, .int (nI i)), (5, .int (nI d)), (6, .int (nI i)), (7, .int (nI d)), (8, .int (nI 1))]) hC [1, 2, 3, 4, 5, 0, 6, 7, 8] dX5_raise_113 (by decide) rfl ?_
              refine g_iinc (v := nI (i + 1)) (lv' := [(0, .ref xo), (1, .int (nI k)), (2, .int v), (3, .int (nI wn)), (4, .int (nI i)), (5, .int (nI d)), (6, .int (nI (i + 1))), (7, .int (nI d)), (8, .int (nI 1))]) hC 6 [1, 2, 3, 4, 5, 6, 0, 7, 8] dX5_raise_115 rfl (nI_add _ 1) (by decide) rfl ?_
              refine g_goto hC 44 dX5_raise_118 (by decide) ?_
              refine g_lv [0, 1, 2, 3, 4, 5, 6] (lv2 := [(0, .ref xo), (1, .int (nI k)), (2, .int v), (3, .int (nI wn)), (4, .int (nI i)), (5, .int (nI d)), (6, .int (nI (i + 1)))]) rfl ?_
              refine ih44 (i + 1) (nI i) (nI d) g2_1 ?_ ?_ ?_ ?_
              · omega
              · have er : raF P nq nd c k v (i + 1) = (match ifPl P nq nd c k i v with | none => raF P nq nd c k v i | some d => match raF P nq nd c k v i with | none => some (i, d) | some (b, m) => if m < d ∨ (d = m ∧ pop5 i < pop5 b) then some (i, d) else some (b, m)) := rfl
                rw [er, hd1s, hd2s]; show _ = oI (((if m2 < d ∨ (d = m2 ∧ pop5 i < pop5 b) then some (i, d) else some (b, m2)) : Option (Nat × Nat)).map Prod.fst)
                rw [if_pos (by omega)]; rfl
              · have er : raF P nq nd c k v (i + 1) = (match ifPl P nq nd c k i v with | none => raF P nq nd c k v i | some d => match raF P nq nd c k v i with | none => some (i, d) | some (b, m) => if m < d ∨ (d = m ∧ pop5 i < pop5 b) then some (i, d) else some (b, m)) := rfl
                rw [er, hd1s, hd2s]; show _ = oI (((if m2 < d ∨ (d = m2 ∧ pop5 i < pop5 b) then some (i, d) else some (b, m2)) : Option (Nat × Nat)).map Prod.snd)
                rw [if_pos (by omega)]; rfl
              · omega
            have hd2n := Decidable.not_not.mp hq2
            have elv : x4 = -9 := by rw [hx4, hd2n]; rfl
            refine g_lve (congrArg (fun zz : Int32 => ([(0, .ref xo), (1, .int (nI k)), (2, .int v), (3, .int (nI wn)), (4, .int zz), (5, .int x5), (6, .int (nI i)), (7, .int (nI d))] : List (Nat × Value))) elv) ?_
            have elv : x5 = -9 := by rw [hx5, hd2n]; rfl
            refine g_lve (congrArg (fun zz : Int32 => ([(0, .ref xo), (1, .int (nI k)), (2, .int v), (3, .int (nI wn)), (4, .int (-9)), (5, .int zz), (6, .int (nI i)), (7, .int (nI d))] : List (Nat × Value))) elv) ?_
            refine g_iload hC 7 dX5_raise_61 rfl ?_
            refine g_iload hC 5 dX5_raise_63 rfl ?_
            refine g_icmp_ne hC 85 dX5_raise_65 (by decide) (fun h65t => ?_) (fun h65f => ?_)
            · refine g_iconst (v := nI 0) hC dX5_raise_85 rfl ?_
              refine g_istore (lv' := [(0, .ref xo), (1, .int (nI k)), (2, .int v), (3, .int (nI wn)), (4, .int (-9)), (5, .int (-9)), (6, .int (nI i)), (7, .int (nI d)), (8, .int (nI 0))]) hC [1, 2, 3, 4, 5, 6, 7, 8, 0] dX5_raise_86 (by decide) rfl ?_
              refine g_iload hC 7 dX5_raise_88 rfl ?_
              refine g_bipush (v := (-9)) hC dX5_raise_90 (by decide +kernel) ?_
              refine g_icmp_eq hC 115 dX5_raise_92 (by decide) (fun h92t => ?_) (fun h92f => ?_)
              · exact absurd h92t (nI_ne9 (by omega))
              refine g_iload hC 7 dX5_raise_95 rfl ?_
              refine g_iload hC 5 dX5_raise_97 rfl ?_
              refine g_icmp_gt hC 107 dX5_raise_99 (by decide) (fun h99t => ?_) (fun h99f => ?_)
              · refine g_iload hC 6 dX5_raise_107 rfl ?_
                refine g_istore (lv' := [(0, .ref xo), (1, .int (nI k)), (2, .int v), (3, .int (nI wn)), (4, .int (nI i)), (5, .int (-9)), (6, .int (nI i)), (7, .int (nI d)), (8, .int (nI 0))]) hC [1, 2, 3, 4, 0, 5, 6, 7, 8] dX5_raise_109 (by decide) rfl ?_
                refine g_iload hC 7 dX5_raise_111 rfl ?_
                refine g_istore (lv' := [(0, .ref xo), (1, .int (nI k)), (2, .int v), (3, .int (nI wn)), (4, .int (nI i)), (5, .int (nI d)), (6, .int (nI i)), (7, .int (nI d)), (8, .int (nI 0))]) hC [1, 2, 3, 4, 5, 0, 6, 7, 8] dX5_raise_113 (by decide) rfl ?_
                refine g_iinc (v := nI (i + 1)) (lv' := [(0, .ref xo), (1, .int (nI k)), (2, .int v), (3, .int (nI wn)), (4, .int (nI i)), (5, .int (nI d)), (6, .int (nI (i + 1))), (7, .int (nI d)), (8, .int (nI 0))]) hC 6 [1, 2, 3, 4, 5, 6, 0, 7, 8] dX5_raise_115 rfl (nI_add _ 1) (by decide) rfl ?_
                refine g_goto hC 44 dX5_raise_118 (by decide) ?_
                refine g_lv [0, 1, 2, 3, 4, 5, 6] (lv2 := [(0, .ref xo), (1, .int (nI k)), (2, .int v), (3, .int (nI wn)), (4, .int (nI i)), (5, .int (nI d)), (6, .int (nI (i + 1)))]) rfl ?_
                refine ih44 (i + 1) (nI i) (nI d) g2_1 ?_ ?_ ?_ ?_
                · omega
                · have er : raF P nq nd c k v (i + 1) = (match ifPl P nq nd c k i v with | none => raF P nq nd c k v i | some d => match raF P nq nd c k v i with | none => some (i, d) | some (b, m) => if m < d ∨ (d = m ∧ pop5 i < pop5 b) then some (i, d) else some (b, m)) := rfl
                  rw [er, hd1s, hd2n]; rfl
                · have er : raF P nq nd c k v (i + 1) = (match ifPl P nq nd c k i v with | none => raF P nq nd c k v i | some d => match raF P nq nd c k v i with | none => some (i, d) | some (b, m) => if m < d ∨ (d = m ∧ pop5 i < pop5 b) then some (i, d) else some (b, m)) := rfl
                  rw [er, hd1s, hd2n]; rfl
                · omega
              exact absurd (Int32.lt_of_lt_of_le (by decide +kernel) (nI_pos' (by omega))) h99f
            exact absurd h65f (nI_ne9 (by omega))
          have hd1n := Decidable.not_not.mp hq1
          have elv : (oI (ifPl P nq nd c k i v)) = -9 := by rw [hd1n]; rfl
          refine g_lve (congrArg (fun zz : Int32 => ([(0, .ref xo), (1, .int (nI k)), (2, .int v), (3, .int (nI wn)), (4, .int x4), (5, .int x5), (6, .int (nI i)), (7, .int zz)] : List (Nat × Value))) elv) ?_
          by_cases hq2 : raF P nq nd c k v i ≠ none
          · obtain ⟨⟨b, m2⟩, hd2s⟩ := Option.ne_none_iff_exists'.mp hq2
            have hbm := raF_lt i hd2s
            have elv : x4 = nI b := by rw [hx4, hd2s]; rfl
            refine g_lve (congrArg (fun zz : Int32 => ([(0, .ref xo), (1, .int (nI k)), (2, .int v), (3, .int (nI wn)), (4, .int zz), (5, .int x5), (6, .int (nI i)), (7, .int (-9))] : List (Nat × Value))) elv) ?_
            have elv : x5 = nI m2 := by rw [hx5, hd2s]; rfl
            refine g_lve (congrArg (fun zz : Int32 => ([(0, .ref xo), (1, .int (nI k)), (2, .int v), (3, .int (nI wn)), (4, .int (nI b)), (5, .int zz), (6, .int (nI i)), (7, .int (-9))] : List (Nat × Value))) elv) ?_
            refine g_iload hC 7 dX5_raise_61 rfl ?_
            refine g_iload hC 5 dX5_raise_63 rfl ?_
            refine g_icmp_ne hC 85 dX5_raise_65 (by decide) (fun h65t => ?_) (fun h65f => ?_)
            · refine g_iconst (v := nI 0) hC dX5_raise_85 rfl ?_
              refine g_istore (lv' := [(0, .ref xo), (1, .int (nI k)), (2, .int v), (3, .int (nI wn)), (4, .int (nI b)), (5, .int (nI m2)), (6, .int (nI i)), (7, .int (-9)), (8, .int (nI 0))]) hC [1, 2, 3, 4, 5, 6, 7, 8, 0] dX5_raise_86 (by decide) rfl ?_
              refine g_iload hC 7 dX5_raise_88 rfl ?_
              refine g_bipush (v := (-9)) hC dX5_raise_90 (by decide +kernel) ?_
              refine g_icmp_eq hC 115 dX5_raise_92 (by decide) (fun h92t => ?_) (fun h92f => ?_)
              · refine g_iinc (v := nI (i + 1)) (lv' := [(0, .ref xo), (1, .int (nI k)), (2, .int v), (3, .int (nI wn)), (4, .int (nI b)), (5, .int (nI m2)), (6, .int (nI (i + 1))), (7, .int (-9)), (8, .int (nI 0))]) hC 6 [1, 2, 3, 4, 5, 6, 0, 7, 8] dX5_raise_115 rfl (nI_add _ 1) (by decide) rfl ?_
                refine g_goto hC 44 dX5_raise_118 (by decide) ?_
                refine g_lv [0, 1, 2, 3, 4, 5, 6] (lv2 := [(0, .ref xo), (1, .int (nI k)), (2, .int v), (3, .int (nI wn)), (4, .int (nI b)), (5, .int (nI m2)), (6, .int (nI (i + 1)))]) rfl ?_
                refine ih44 (i + 1) (nI b) (nI m2) g2_1 ?_ ?_ ?_ ?_
                · omega
                · have er : raF P nq nd c k v (i + 1) = (match ifPl P nq nd c k i v with | none => raF P nq nd c k v i | some d => match raF P nq nd c k v i with | none => some (i, d) | some (b, m) => if m < d ∨ (d = m ∧ pop5 i < pop5 b) then some (i, d) else some (b, m)) := rfl
                  rw [er, hd1n]; show _ = oI ((raF P nq nd c k v i).map Prod.fst); rw [hd2s]; rfl
                · have er : raF P nq nd c k v (i + 1) = (match ifPl P nq nd c k i v with | none => raF P nq nd c k v i | some d => match raF P nq nd c k v i with | none => some (i, d) | some (b, m) => if m < d ∨ (d = m ∧ pop5 i < pop5 b) then some (i, d) else some (b, m)) := rfl
                  rw [er, hd1n]; show _ = oI ((raF P nq nd c k v i).map Prod.snd); rw [hd2s]; rfl
                · omega
              exact absurd rfl h92f
            exact absurd h65f.symm (nI_ne9 (by omega))
          have hd2n := Decidable.not_not.mp hq2
          have elv : x4 = -9 := by rw [hx4, hd2n]; rfl
          refine g_lve (congrArg (fun zz : Int32 => ([(0, .ref xo), (1, .int (nI k)), (2, .int v), (3, .int (nI wn)), (4, .int zz), (5, .int x5), (6, .int (nI i)), (7, .int (-9))] : List (Nat × Value))) elv) ?_
          have elv : x5 = -9 := by rw [hx5, hd2n]; rfl
          refine g_lve (congrArg (fun zz : Int32 => ([(0, .ref xo), (1, .int (nI k)), (2, .int v), (3, .int (nI wn)), (4, .int (-9)), (5, .int zz), (6, .int (nI i)), (7, .int (-9))] : List (Nat × Value))) elv) ?_
          refine g_iload hC 7 dX5_raise_61 rfl ?_
          refine g_iload hC 5 dX5_raise_63 rfl ?_
          refine g_icmp_ne hC 85 dX5_raise_65 (by decide) (fun h65t => ?_) (fun h65f => ?_)
          · exact absurd rfl h65t
          refine g_iload hC 6 dX5_raise_68 rfl ?_
          refine g_callSip (As := [.int (nI i)]) (rest := []) hC (nI (pop5 i)) (c_J6_bitCount_0f7a4 l D cI cZ i (by first | assumption | omega)) (va_cwS 1 hC.1.2.2.2.2 gX5_raise_J6_bitCount_0f7a4 rfl rfl rfl dS_J6_bitCount_0f7a4 ⟨Nat.le_of_ble_eq_true rfl, Nat.le_of_ble_eq_true rfl⟩) rfl rfl (Nat.le_of_ble_eq_true rfl) dX5_raise_70 ⟨Nat.le_of_ble_eq_true rfl, Nat.le_of_ble_eq_true rfl⟩ [] rfl rfl ?_
          refine g_iload hC 4 dX5_raise_73 rfl ?_
          refine g_callSip (As := [.int (-9)]) (rest := [.int (nI (pop5 i))]) hC (nI 31) (c_J6_bitCount_0f7a4_no l D cI cZ ) (va_cwS 1 hC.1.2.2.2.2 gX5_raise_J6_bitCount_0f7a4 rfl rfl rfl dS_J6_bitCount_0f7a4 ⟨Nat.le_of_ble_eq_true rfl, Nat.le_of_ble_eq_true rfl⟩) rfl rfl (Nat.le_of_ble_eq_true rfl) dX5_raise_75 ⟨Nat.le_of_ble_eq_true rfl, Nat.le_of_ble_eq_true rfl⟩ [] rfl rfl ?_
          refine g_icmp_ge_n (a := (pop5 i)) (b := 31) hC (by have := pop5_le i (by omega); first | omega | (have := pop5_le b (by omega); omega)) (by have := pop5_le i (by omega); first | omega | (have := pop5_le b (by omega); omega)) 85 dX5_raise_78 (by decide) (fun h78t => ?_) (fun h78f => ?_)
          · refine g_iconst (v := nI 0) hC dX5_raise_85 rfl ?_
            refine g_istore (lv' := [(0, .ref xo), (1, .int (nI k)), (2, .int v), (3, .int (nI wn)), (4, .int (-9)), (5, .int (-9)), (6, .int (nI i)), (7, .int (-9)), (8, .int (nI 0))]) hC [1, 2, 3, 4, 5, 6, 7, 8, 0] dX5_raise_86 (by decide) rfl ?_
            refine g_iload hC 7 dX5_raise_88 rfl ?_
            refine g_bipush (v := (-9)) hC dX5_raise_90 (by decide +kernel) ?_
            refine g_icmp_eq hC 115 dX5_raise_92 (by decide) (fun h92t => ?_) (fun h92f => ?_)
            · refine g_iinc (v := nI (i + 1)) (lv' := [(0, .ref xo), (1, .int (nI k)), (2, .int v), (3, .int (nI wn)), (4, .int (-9)), (5, .int (-9)), (6, .int (nI (i + 1))), (7, .int (-9)), (8, .int (nI 0))]) hC 6 [1, 2, 3, 4, 5, 6, 0, 7, 8] dX5_raise_115 rfl (nI_add _ 1) (by decide) rfl ?_
              refine g_goto hC 44 dX5_raise_118 (by decide) ?_
              refine g_lv [0, 1, 2, 3, 4, 5, 6] (lv2 := [(0, .ref xo), (1, .int (nI k)), (2, .int v), (3, .int (nI wn)), (4, .int (-9)), (5, .int (-9)), (6, .int (nI (i + 1)))]) rfl ?_
              refine ih44 (i + 1) (-9) (-9) g2_1 ?_ ?_ ?_ ?_
              · omega
              · have er : raF P nq nd c k v (i + 1) = (match ifPl P nq nd c k i v with | none => raF P nq nd c k v i | some d => match raF P nq nd c k v i with | none => some (i, d) | some (b, m) => if m < d ∨ (d = m ∧ pop5 i < pop5 b) then some (i, d) else some (b, m)) := rfl
                rw [er, hd1n]; show _ = oI ((raF P nq nd c k v i).map Prod.fst); rw [hd2n]; rfl
              · have er : raF P nq nd c k v (i + 1) = (match ifPl P nq nd c k i v with | none => raF P nq nd c k v i | some d => match raF P nq nd c k v i with | none => some (i, d) | some (b, m) => if m < d ∨ (d = m ∧ pop5 i < pop5 b) then some (i, d) else some (b, m)) := rfl
                rw [er, hd1n]; show _ = oI ((raF P nq nd c k v i).map Prod.snd); rw [hd2n]; rfl
              · omega
            exact absurd rfl h92f
          refine g_iconst (v := nI 1) hC dX5_raise_81 rfl ?_
          refine g_goto hC 86 dX5_raise_82 (by decide) ?_
          refine g_istore (lv' := [(0, .ref xo), (1, .int (nI k)), (2, .int v), (3, .int (nI wn)), (4, .int (-9)), (5, .int (-9)), (6, .int (nI i)), (7, .int (-9)), (8, .int (nI 1))]) hC [1, 2, 3, 4, 5, 6, 7, 8, 0] dX5_raise_86 (by decide) rfl ?_
          refine g_iload hC 7 dX5_raise_88 rfl ?_
          refine g_bipush (v := (-9)) hC dX5_raise_90 (by decide +kernel) ?_
          refine g_icmp_eq hC 115 dX5_raise_92 (by decide) (fun h92t => ?_) (fun h92f => ?_)
          · refine g_iinc (v := nI (i + 1)) (lv' := [(0, .ref xo), (1, .int (nI k)), (2, .int v), (3, .int (nI wn)), (4, .int (-9)), (5, .int (-9)), (6, .int (nI (i + 1))), (7, .int (-9)), (8, .int (nI 1))]) hC 6 [1, 2, 3, 4, 5, 6, 0, 7, 8] dX5_raise_115 rfl (nI_add _ 1) (by decide) rfl ?_
            refine g_goto hC 44 dX5_raise_118 (by decide) ?_
            refine g_lv [0, 1, 2, 3, 4, 5, 6] (lv2 := [(0, .ref xo), (1, .int (nI k)), (2, .int v), (3, .int (nI wn)), (4, .int (-9)), (5, .int (-9)), (6, .int (nI (i + 1)))]) rfl ?_
            refine ih44 (i + 1) (-9) (-9) g2_1 ?_ ?_ ?_ ?_
            · omega
            · have er : raF P nq nd c k v (i + 1) = (match ifPl P nq nd c k i v with | none => raF P nq nd c k v i | some d => match raF P nq nd c k v i with | none => some (i, d) | some (b, m) => if m < d ∨ (d = m ∧ pop5 i < pop5 b) then some (i, d) else some (b, m)) := rfl
              rw [er, hd1n]; show _ = oI ((raF P nq nd c k v i).map Prod.fst); rw [hd2n]; rfl
            · have er : raF P nq nd c k v (i + 1) = (match ifPl P nq nd c k i v with | none => raF P nq nd c k v i | some d => match raF P nq nd c k v i with | none => some (i, d) | some (b, m) => if m < d ∨ (d = m ∧ pop5 i < pop5 b) then some (i, d) else some (b, m)) := rfl
              rw [er, hd1n]; show _ = oI ((raF P nq nd c k v i).map Prod.snd); rw [hd2n]; rfl
            · omega
          exact absurd rfl h92f
      refine L44 _ 0 (-9) (-9) g ?_ ?_ ?_ (Nat.lt_succ_self _)
      · omega
      · rfl
      · rfl
    refine g_bipush (v := (-2)) hC dX5_raise_30 (by decide +kernel) ?_
    subst hQ
    refine g_iret (v := -2) hC (g) hr ?_ rfl dX5_raise_32
    rw [raiseR, if_pos hin2, if_neg (fun q => h27f q.2)]
  refine g_iconst (v := (-1)) hC dX5_raise_11 rfl ?_
  subst hQ
  refine g_iret (v := -1) hC (g) hr ?_ rfl dX5_raise_12
  rw [raiseR, if_neg h8f]

abbrev rm_X5_back : Room := { frames := 4, cells := 0, slots := 0, locals := 88 }
set_option maxRecDepth 100000 in
set_option maxHeartbeats 4000000 in
theorem c_X5_back (l : Launch) (D : va_G) (cI cZ : ClassId) (xo : Nat) (xt : Nat) (xp : Nat) (xd : Nat) (xn : Nat) (xa : Nat) (xc : Nat) (xs : Nat) (xk : Nat) (ks : Int32) (ch : Int64) (xnc : Nat) (c : Nat → Int32) (xgc : Nat) (g : Nat → Int32) (r : Nat → Nat) (ti : Int32) (np : Nat) (nq : Nat) (nd : Nat) (P : Nat → Nat → Nat) (a : Int32) (hW : WFP np nq nd P) : CtI l yX5_back wsX5_back rm_X5_back D cI cZ [.ref xo, .int a] [(xo, o5 xt xp xd xn xa xc xs xk ks ch), (xn, .inr (3, [.ref xp, .ref xnc])), (xnc, .inl (cI, 20, .inl c)), (xa, .inr (3, [.ref xp, .ref xgc])), (xgc, .inl (cI, 20, .inl g)), (xp, o2 r ti np nq nd), (r 1, .inl (cI, 5, .inl (fun k_ => nI (P 0 k_)))), (r 2, .inl (cI, 5, .inl (fun k_ => nI (P 1 k_)))), (r 3, .inl (cI, 5, .inl (fun k_ => nI (P 2 k_)))), (r 4, .inl (cI, 5, .inl (fun k_ => nI (P 3 k_)))), (r 5, .inl (cI, 5, .inl (fun k_ => nI (P 4 k_)))), (r 6, .inl (cI, 5, .inl (fun k_ => nI (P 5 k_))))] (fun (r : Int32) (g2 : (Nat → Int32)) => r = backR nq nd P c a) (fun (g2 : (Nat → Int32)) => [(xo, o5 xt xp xd xn xa xc xs xk ks ch), (xn, .inr (3, [.ref xp, .ref xnc])), (xnc, .inl (cI, 20, .inl c)), (xa, .inr (3, [.ref xp, .ref xgc])), (xgc, .inl (cI, 20, .inl g2)), (xp, o2 r ti np nq nd), (r 1, .inl (cI, 5, .inl (fun k_ => nI (P 0 k_)))), (r 2, .inl (cI, 5, .inl (fun k_ => nI (P 1 k_)))), (r 3, .inl (cI, 5, .inl (fun k_ => nI (P 2 k_)))), (r 4, .inl (cI, 5, .inl (fun k_ => nI (P 3 k_)))), (r 5, .inl (cI, 5, .inl (fun k_ => nI (P 4 k_)))), (r 6, .inl (cI, 5, .inl (fun k_ => nI (P 5 k_))))]) 0 0 := by
  refine g_startI (ret := (some .int)) (own := RX5) (lv0 := [(0, .ref xo), (1, .int a)]) (by decide) rfl rfl (Nat.le_of_ble_eq_true rfl) rfl ?_
  intro p e s m args below meth cd A Q hin hr hQ hC
  have hcw5 : ∀ w ∈ wsX50, w ∈ wsX5_back := fun _ h => List.mem_cons_of_mem _ (List.mem_append_left _ (List.mem_append_left _ (List.mem_append_right _ h)))
  have w1 := hC.1.2.2.2.2 (.fieldLink "PluckBroker" 19 "PluckBroker" "plan" "LPluckBroker$Plan;") (List.mem_of_getElem? (i := 1) rfl)
  have w2 := hC.1.2.2.2.2 (.fieldLink "PluckBroker" 31 "PluckBroker" "now" "LPluckBroker$State;") (List.mem_of_getElem? (i := 2) rfl)
  have w3 := hC.1.2.2.2.2 (.fieldLink "PluckBroker" 35 "PluckBroker" "ahead" "LPluckBroker$State;") (List.mem_of_getElem? (i := 3) rfl)
  obtain ⟨⟨hnp, hnq, hnd⟩, hq4, hd5⟩ := id hW
  refine g_aload_n hC 0 dX5_back_0 rfl rfl ?_
  refine g_get (C := RX5) (T := TX5) (N := 10) (ci := 5) (v := .ref xp) hC hcw5 0 rfl rfl 1 (by decide) w1 (fun _ h => h) rfl dX5_back_1 ?_
  refine g_iload_n hC 1 dX5_back_4 rfl rfl ?_
  refine g_callVip (As := [.int a]) (rest := []) hC (bI (inR a nq)) (c_X2_hasQuality l D cI cZ xp r ti np nq nd a hnq) (cwV 1 hC.1.2.2.2.2 gX5_back_X2_hasQuality rfl rfl rfl dV_X2_hasQuality ⟨Nat.le_of_ble_eq_true rfl, Nat.le_of_ble_eq_true rfl⟩) rfl rfl rfl rfl (Nat.le_of_ble_eq_true rfl) dX5_back_5 ⟨Nat.le_of_ble_eq_true rfl, Nat.le_of_ble_eq_true rfl⟩ [5] rfl rfl ?_
  refine g_if_ne_b hC 13 dX5_back_8 (by decide) (fun h8t => ?_) (fun h8f => ?_)
  · obtain ⟨k, hk, rfl⟩ := inR_n (by omega) h8t
    have hin2 := inR_k (n := nq) (by omega) hk
    have hKk : K (nI k) = k := K_n (by omega)
    refine g_aload_n hC 0 dX5_back_13 rfl rfl ?_
    refine g_get (C := RX5) (T := TX5) (N := 10) (ci := 5) (v := .ref xn) hC hcw5 0 rfl rfl 3 (by decide) w2 (fun _ h => h) rfl dX5_back_14 ?_
    refine g_iload_n hC 1 dX5_back_17 rfl rfl ?_
    refine g_callVip (As := [.int (nI k)]) (rest := []) hC (c (5 + k)) (c_X3_standingOf l D cI cZ xn xp xnc c k (by first | assumption | omega)) (cwV 1 hC.1.2.2.2.2 gX5_back_X3_standingOf rfl rfl rfl dV_X3_standingOf ⟨Nat.le_of_ble_eq_true rfl, Nat.le_of_ble_eq_true rfl⟩) rfl rfl rfl rfl (Nat.le_of_ble_eq_true rfl) dX5_back_18 ⟨Nat.le_of_ble_eq_true rfl, Nat.le_of_ble_eq_true rfl⟩ [1, 2] rfl rfl ?_
    refine g_iconst (v := nI 1) hC dX5_back_21 rfl ?_
    refine g_icmp_eq hC 28 dX5_back_22 (by decide) (fun h22t => ?_) (fun h22f => ?_)
    · refine g_aload_n hC 0 dX5_back_28 rfl rfl ?_
      refine g_get (C := RX5) (T := TX5) (N := 10) (ci := 5) (v := .ref xa) hC hcw5 0 rfl rfl 4 (by decide) w3 (fun _ h => h) rfl dX5_back_29 ?_
      refine g_aload_n hC 0 dX5_back_32 rfl rfl ?_
      refine g_get (C := RX5) (T := TX5) (N := 10) (ci := 5) (v := .ref xn) hC hcw5 0 rfl rfl 3 (by decide) w2 (fun _ h => h) rfl dX5_back_33 ?_
      refine g_callVv (As := [.ref xn]) (rest := []) hC (c_X3_copy l D cI cZ xa xp xgc g xn xp xnc c) (cwV 1 hC.1.2.2.2.2 gX5_back_X3_copy rfl rfl rfl dV_X3_copy ⟨Nat.le_of_ble_eq_true rfl, Nat.le_of_ble_eq_true rfl⟩) rfl rfl rfl rfl (Nat.le_of_ble_eq_true rfl) dX5_back_36 ⟨Nat.le_of_ble_eq_true rfl, Nat.le_of_ble_eq_true rfl⟩ [3, 4, 1, 2] [0, 5, 6, 7, 8, 9, 10, 11] [0, 10, 11, 8, 9, 1, 2, 3, 4, 5, 6, 7] (fun (_ : Unit) => [(xo, o5 xt xp xd xn xa xc xs xk ks ch), (xn, .inr (3, [.ref xp, .ref xnc])), (xnc, .inl (cI, 20, .inl c)), (xa, .inr (3, [.ref xp, .ref xgc])), (xgc, .inl (cI, 20, .inl c)), (xp, o2 r ti np nq nd), (r 1, .inl (cI, 5, .inl (fun k_ => nI (P 0 k_)))), (r 2, .inl (cI, 5, .inl (fun k_ => nI (P 1 k_)))), (r 3, .inl (cI, 5, .inl (fun k_ => nI (P 2 k_)))), (r 4, .inl (cI, 5, .inl (fun k_ => nI (P 3 k_)))), (r 5, .inl (cI, 5, .inl (fun k_ => nI (P 4 k_)))), (r 6, .inl (cI, 5, .inl (fun k_ => nI (P 5 k_))))]) rfl rfl rfl (fun _ => rfl) (fun z36 hp36 => ?_)
      refine g_is (ws2 := [(xo, o5 xt xp xd xn xa xc xs xk ks ch), (xn, .inr (3, [.ref xp, .ref xnc])), (xnc, .inl (cI, 20, .inl c)), (xa, .inr (3, [.ref xp, .ref xgc])), (xgc, .inl (cI, 20, .inl c)), (xp, o2 r ti np nq nd), (r 1, .inl (cI, 5, .inl (fun k_ => nI (P 0 k_)))), (r 2, .inl (cI, 5, .inl (fun k_ => nI (P 1 k_)))), (r 3, .inl (cI, 5, .inl (fun k_ => nI (P 2 k_)))), (r 4, .inl (cI, 5, .inl (fun k_ => nI (P 3 k_)))), (r 5, .inl (cI, 5, .inl (fun k_ => nI (P 4 k_)))), (r 6, .inl (cI, 5, .inl (fun k_ => nI (P 5 k_))))]) (lv2 := [(0, .ref xo), (1, .int (nI k))]) (st2 := []) rfl rfl rfl ?_
      refine g_iconst (v := nI 0) hC dX5_back_39 rfl ?_
      refine g_istore_n (lv' := [(0, .ref xo), (1, .int (nI k)), (2, .int (nI 0))]) hC [1, 2, 0] dX5_back_40 rfl (by decide) rfl ?_
      have L41 : ∀ (n : Nat) (i : Nat) (gg : Nat → Int32), (i ≤ 21) → (gg = passN P nq nd c i) → (backF P nq nd c k 21 0 = backF P nq nd c k (21 - i) i) → 21 - i < n → G p l e rm_X5_back s m args below meth cd D A 0 0 Q 3 [(xo, o5 xt xp xd xn xa xc xs xk ks ch), (xn, .inr (3, [.ref xp, .ref xnc])), (xnc, .inl (cI, 20, .inl c)), (xa, .inr (3, [.ref xp, .ref xgc])), (xgc, .inl (cI, 20, .inl gg)), (xp, o2 r ti np nq nd), (r 1, .inl (cI, 5, .inl (fun k_ => nI (P 0 k_)))), (r 2, .inl (cI, 5, .inl (fun k_ => nI (P 1 k_)))), (r 3, .inl (cI, 5, .inl (fun k_ => nI (P 2 k_)))), (r 4, .inl (cI, 5, .inl (fun k_ => nI (P 3 k_)))), (r 5, .inl (cI, 5, .inl (fun k_ => nI (P 4 k_)))), (r 6, .inl (cI, 5, .inl (fun k_ => nI (P 5 k_))))] 41 [(0, .ref xo), (1, .int (nI k)), (2, .int (nI i))] [] := by
        intro n
        induction n with
        | zero => intro i gg hi hg he hn; exact absurd hn (Nat.not_lt_zero _)
        | succ n ih41 =>
          intro i gg hi hg he hn
          refine g_iload_n hC 2 dX5_back_41 rfl rfl ?_
          refine g_bipush (v := nI 20) hC dX5_back_42 (by decide +kernel) ?_
          refine g_icmp_gt_n (a := i) (b := 20) hC (by omega) (by omega) 74 dX5_back_44 (by decide) (fun h44t => ?_) (fun h44f => ?_)
          · refine g_bipush (v := (-9)) hC dX5_back_74 (by decide +kernel) ?_
            subst hQ
            refine g_iret (v := -9) hC (gg) hr ?_ rfl dX5_back_76
            rw [backR, if_pos hin2, hKk, if_pos h22t, he, show 21 - i = 0 by omega]; rfl
          refine g_aload_n hC 0 dX5_back_47 rfl rfl ?_
          refine g_get (C := RX5) (T := TX5) (N := 10) (ci := 5) (v := .ref xa) hC hcw5 0 rfl rfl 4 (by decide) w3 (fun _ h => h) rfl dX5_back_48 ?_
          refine g_iload_n hC 1 dX5_back_51 rfl rfl ?_
          refine g_callVip (As := [.int (nI k)]) (rest := []) hC (bI (canR P gg k)) (c_X3_canRedeem l D cI cZ xa xp xgc gg r ti np nq nd P k (by first | assumption | omega) (by first | assumption | omega)) (cwV 1 hC.1.2.2.2.2 gX5_back_X3_canRedeem rfl rfl rfl dV_X3_canRedeem ⟨Nat.le_of_ble_eq_true rfl, Nat.le_of_ble_eq_true rfl⟩) rfl rfl rfl rfl (Nat.le_of_ble_eq_true rfl) dX5_back_52 ⟨Nat.le_of_ble_eq_true rfl, Nat.le_of_ble_eq_true rfl⟩ [3, 4, 5, 6, 7, 8, 9, 10, 11] rfl rfl ?_
          refine g_if_eq_b hC 60 dX5_back_55 (by decide) (fun h55t => ?_) (fun h55f => ?_)
          · refine g_aload_n hC 0 dX5_back_60 rfl rfl ?_
            refine g_get (C := RX5) (T := TX5) (N := 10) (ci := 5) (v := .ref xa) hC hcw5 0 rfl rfl 4 (by decide) w3 (fun _ h => h) rfl dX5_back_61 ?_
            refine g_callVi (As := []) (rest := []) hC (c_X3_passDay l D cI cZ xa xp xgc gg r ti np nq nd P (by first | assumption | omega)) (cwV 0 hC.1.2.2.2.2 gX5_back_X3_passDay rfl rfl rfl dV_X3_passDay ⟨Nat.le_of_ble_eq_true rfl, Nat.le_of_ble_eq_true rfl⟩) rfl rfl rfl rfl (Nat.le_of_ble_eq_true rfl) dX5_back_64 ⟨Nat.le_of_ble_eq_true rfl, Nat.le_of_ble_eq_true rfl⟩ [3, 4, 5, 6, 7, 8, 9, 10, 11] [0, 1, 2] [0, 1, 2, 3, 4, 5, 6, 7, 8, 9, 10, 11] (fun (_ : Unit) => [(xo, o5 xt xp xd xn xa xc xs xk ks ch), (xn, .inr (3, [.ref xp, .ref xnc])), (xnc, .inl (cI, 20, .inl c)), (xa, .inr (3, [.ref xp, .ref xgc])), (xgc, .inl (cI, 20, .inl (passF P nq nd gg))), (xp, o2 r ti np nq nd), (r 1, .inl (cI, 5, .inl (fun k_ => nI (P 0 k_)))), (r 2, .inl (cI, 5, .inl (fun k_ => nI (P 1 k_)))), (r 3, .inl (cI, 5, .inl (fun k_ => nI (P 2 k_)))), (r 4, .inl (cI, 5, .inl (fun k_ => nI (P 3 k_)))), (r 5, .inl (cI, 5, .inl (fun k_ => nI (P 4 k_)))), (r 6, .inl (cI, 5, .inl (fun k_ => nI (P 5 k_))))]) rfl rfl rfl (fun _ => rfl) (fun r64 z64 hp64 => ?_)
            try dsimp only at hp64
            subst hp64
            refine g_is (ws2 := [(xo, o5 xt xp xd xn xa xc xs xk ks ch), (xn, .inr (3, [.ref xp, .ref xnc])), (xnc, .inl (cI, 20, .inl c)), (xa, .inr (3, [.ref xp, .ref xgc])), (xgc, .inl (cI, 20, .inl (passF P nq nd gg))), (xp, o2 r ti np nq nd), (r 1, .inl (cI, 5, .inl (fun k_ => nI (P 0 k_)))), (r 2, .inl (cI, 5, .inl (fun k_ => nI (P 1 k_)))), (r 3, .inl (cI, 5, .inl (fun k_ => nI (P 2 k_)))), (r 4, .inl (cI, 5, .inl (fun k_ => nI (P 3 k_)))), (r 5, .inl (cI, 5, .inl (fun k_ => nI (P 4 k_)))), (r 6, .inl (cI, 5, .inl (fun k_ => nI (P 5 k_))))]) (lv2 := [(0, .ref xo), (1, .int (nI k)), (2, .int (nI i))]) (st2 := [.int (nI (cntD P gg nd))]) rfl rfl rfl ?_
            refine g_pop hC dX5_back_67 rfl ?_
            refine g_iinc (v := nI (i + 1)) (lv' := [(0, .ref xo), (1, .int (nI k)), (2, .int (nI (i + 1)))]) hC 2 [1, 2, 0] dX5_back_68 rfl (nI_add _ 1) (by decide) rfl ?_
            refine g_goto hC 41 dX5_back_71 (by decide) ?_
            refine ih41 (i + 1) (passF P nq nd gg) ?_ ?_ ?_ ?_
            · omega
            · rw [hg]; rfl
            · rw [he, show 21 - i = (21 - (i + 1)) + 1 by omega]
              show (if canR P (passN P nq nd c i) k then nI i else _) = _
              rw [← hg, if_neg h55t]
            · omega
          refine g_iload_n hC 2 dX5_back_58 rfl rfl ?_
          subst hQ
          refine g_iret (v := nI i) hC (gg) hr ?_ rfl dX5_back_59
          rw [backR, if_pos hin2, hKk, if_pos h22t, he, show 21 - i = (20 - i) + 1 by omega]
          show _ = (if canR P (passN P nq nd c i) k then nI i else _)
          rw [← hg, if_pos h55f]
      refine L41 _ 0 c ?_ ?_ ?_ (Nat.lt_succ_self _)
      · omega
      · rfl
      · rfl
    refine g_bipush (v := (-3)) hC dX5_back_25 (by decide +kernel) ?_
    subst hQ
    refine g_iret (v := -3) hC (g) hr ?_ rfl dX5_back_27
    rw [backR, if_pos hin2, hKk, if_neg h22f]
  refine g_iconst (v := (-1)) hC dX5_back_11 rfl ?_
  subst hQ
  refine g_iret (v := -1) hC (g) hr ?_ rfl dX5_back_12
  rw [backR, if_neg h8f]

abbrev rm_X5_ask : Room := { frames := 2, cells := 0, slots := 0, locals := 44 }
set_option maxRecDepth 100000 in
set_option maxHeartbeats 4000000 in
theorem c_X5_ask (l : Launch) (D : va_G) (cI cZ : ClassId) (xo : Nat) (xt : Nat) (xp : Nat) (xd : Nat) (xn : Nat) (xa : Nat) (xc : Nat) (xs : Nat) (xk : Nat) (ks : Int32) (ch : Int64) (xsd : Nat) (xsu : Nat) (f : Nat → Int32) (g : Nat → Int32) (na : Nat) (a : Int32) (b : Int32) (hna : na ≤ 6) : CtI l yX5_ask wsX5_ask rm_X5_ask D cI cZ [.ref xo, .int a, .int b] [(xo, o5 xt xp xd xn xa xc xs xk ks ch), (xs, .inr (1, [.ref xsd, .ref xsu, .int (nI na)])), (xsd, .inl (cI, 6, .inl f)), (xsu, .inl (cI, 6, .inl g))] (fun r (_ : Unit) => r = askR na a b) (fun (_ : Unit) => [(xo, o5 xt xp xd xn xa xc xs xk ks ch), (xs, .inr (1, [.ref xsd, .ref xsu, .int (nI (askN na a b))])), (xsd, .inl (cI, 6, .inl (askF na f a b a))), (xsu, .inl (cI, 6, .inl (askF na g a b b)))]) 0 0 := by
  refine g_startI (ret := (some .int)) (own := RX5) (lv0 := [(0, .ref xo), (1, .int a), (2, .int b)]) (by decide) rfl rfl (Nat.le_of_ble_eq_true rfl) rfl ?_
  intro p e s m args below meth cd A Q hin hr hQ hC
  have hcw1 : ∀ w ∈ wsX10, w ∈ wsX5_ask := fun _ h => List.mem_cons_of_mem _ (List.mem_append_right _ h)
  have hcw5 : ∀ w ∈ wsX50, w ∈ wsX5_ask := fun _ h => List.mem_cons_of_mem _ (List.mem_append_left _ (List.mem_append_right _ h))
  have w1 := hC.1.2.2.2.2 (.fieldLink "PluckBroker" 48 "PluckBroker" "asked" "LPluckBroker$Asked;") (List.mem_of_getElem? (i := 1) rfl)
  refine g_iload_n hC 1 dX5_ask_0 rfl rfl ?_
  refine g_if_lt hC 20 dX5_ask_1 (by decide) (fun h1t => ?_) (fun h1f => ?_)
  · have no : ¬ ((nI 0 ≤ a ∧ a ≤ nI 8) ∧ (nI 0 ≤ b ∧ b ≤ nI 30)) := fun q => absurd q.1.1 (Int32.not_le.mpr h1t)
    have ecell : f = (askF na f a b a) := by rw [askF, if_neg no]
    refine g_ws (ws2 := [(xo, o5 xt xp xd xn xa xc xs xk ks ch), (xs, .inr (1, [.ref xsd, .ref xsu, .int (nI na)])), (xsd, .inl (cI, 6, .inl (askF na f a b a))), (xsu, .inl (cI, 6, .inl g))]) (congrArg (fun zz : Nat → Int32 => ([(xo, o5 xt xp xd xn xa xc xs xk ks ch), (xs, .inr (1, [.ref xsd, .ref xsu, .int (nI na)])), (xsd, .inl (cI, 6, .inl zz)), (xsu, .inl (cI, 6, .inl g))] : va_W)) ecell) ?_
    have ecell : g = (askF na g a b b) := by rw [askF, if_neg no]
    refine g_ws (ws2 := [(xo, o5 xt xp xd xn xa xc xs xk ks ch), (xs, .inr (1, [.ref xsd, .ref xsu, .int (nI na)])), (xsd, .inl (cI, 6, .inl (askF na f a b a))), (xsu, .inl (cI, 6, .inl (askF na g a b b)))]) (congrArg (fun zz : Nat → Int32 => ([(xo, o5 xt xp xd xn xa xc xs xk ks ch), (xs, .inr (1, [.ref xsd, .ref xsu, .int (nI na)])), (xsd, .inl (cI, 6, .inl (askF na f a b a))), (xsu, .inl (cI, 6, .inl zz))] : va_W)) ecell) ?_
    have efld : (na : Nat) = askN na a b := by rw [askN, if_neg no]
    refine g_ws (ws2 := [(xo, o5 xt xp xd xn xa xc xs xk ks ch), (xs, .inr (1, [.ref xsd, .ref xsu, .int (nI (askN na a b))])), (xsd, .inl (cI, 6, .inl (askF na f a b a))), (xsu, .inl (cI, 6, .inl (askF na g a b b)))]) (congrArg (fun zz : Nat => ([(xo, o5 xt xp xd xn xa xc xs xk ks ch), (xs, .inr (1, [.ref xsd, .ref xsu, .int (nI zz)])), (xsd, .inl (cI, 6, .inl (askF na f a b a))), (xsu, .inl (cI, 6, .inl (askF na g a b b)))] : va_W)) efld) ?_
    refine g_bipush (v := (-2)) hC dX5_ask_20 (by decide +kernel) ?_
    subst hQ
    refine g_iret (v := -2) hC () hr ?_ rfl dX5_ask_22
    rw [askR, if_neg no]
  refine g_iload_n hC 1 dX5_ask_4 rfl rfl ?_
  refine g_bipush (v := nI 8) hC dX5_ask_5 (by decide +kernel) ?_
  refine g_icmp_gt hC 20 dX5_ask_7 (by decide) (fun h7t => ?_) (fun h7f => ?_)
  · have no : ¬ ((nI 0 ≤ a ∧ a ≤ nI 8) ∧ (nI 0 ≤ b ∧ b ≤ nI 30)) := fun q => absurd q.1.2 (Int32.not_le.mpr h7t)
    have ecell : f = (askF na f a b a) := by rw [askF, if_neg no]
    refine g_ws (ws2 := [(xo, o5 xt xp xd xn xa xc xs xk ks ch), (xs, .inr (1, [.ref xsd, .ref xsu, .int (nI na)])), (xsd, .inl (cI, 6, .inl (askF na f a b a))), (xsu, .inl (cI, 6, .inl g))]) (congrArg (fun zz : Nat → Int32 => ([(xo, o5 xt xp xd xn xa xc xs xk ks ch), (xs, .inr (1, [.ref xsd, .ref xsu, .int (nI na)])), (xsd, .inl (cI, 6, .inl zz)), (xsu, .inl (cI, 6, .inl g))] : va_W)) ecell) ?_
    have ecell : g = (askF na g a b b) := by rw [askF, if_neg no]
    refine g_ws (ws2 := [(xo, o5 xt xp xd xn xa xc xs xk ks ch), (xs, .inr (1, [.ref xsd, .ref xsu, .int (nI na)])), (xsd, .inl (cI, 6, .inl (askF na f a b a))), (xsu, .inl (cI, 6, .inl (askF na g a b b)))]) (congrArg (fun zz : Nat → Int32 => ([(xo, o5 xt xp xd xn xa xc xs xk ks ch), (xs, .inr (1, [.ref xsd, .ref xsu, .int (nI na)])), (xsd, .inl (cI, 6, .inl (askF na f a b a))), (xsu, .inl (cI, 6, .inl zz))] : va_W)) ecell) ?_
    have efld : (na : Nat) = askN na a b := by rw [askN, if_neg no]
    refine g_ws (ws2 := [(xo, o5 xt xp xd xn xa xc xs xk ks ch), (xs, .inr (1, [.ref xsd, .ref xsu, .int (nI (askN na a b))])), (xsd, .inl (cI, 6, .inl (askF na f a b a))), (xsu, .inl (cI, 6, .inl (askF na g a b b)))]) (congrArg (fun zz : Nat => ([(xo, o5 xt xp xd xn xa xc xs xk ks ch), (xs, .inr (1, [.ref xsd, .ref xsu, .int (nI zz)])), (xsd, .inl (cI, 6, .inl (askF na f a b a))), (xsu, .inl (cI, 6, .inl (askF na g a b b)))] : va_W)) efld) ?_
    refine g_bipush (v := (-2)) hC dX5_ask_20 (by decide +kernel) ?_
    subst hQ
    refine g_iret (v := -2) hC () hr ?_ rfl dX5_ask_22
    rw [askR, if_neg no]
  refine g_iload_n hC 2 dX5_ask_10 rfl rfl ?_
  refine g_if_lt hC 20 dX5_ask_11 (by decide) (fun h11t => ?_) (fun h11f => ?_)
  · have no : ¬ ((nI 0 ≤ a ∧ a ≤ nI 8) ∧ (nI 0 ≤ b ∧ b ≤ nI 30)) := fun q => absurd q.2.1 (Int32.not_le.mpr h11t)
    have ecell : f = (askF na f a b a) := by rw [askF, if_neg no]
    refine g_ws (ws2 := [(xo, o5 xt xp xd xn xa xc xs xk ks ch), (xs, .inr (1, [.ref xsd, .ref xsu, .int (nI na)])), (xsd, .inl (cI, 6, .inl (askF na f a b a))), (xsu, .inl (cI, 6, .inl g))]) (congrArg (fun zz : Nat → Int32 => ([(xo, o5 xt xp xd xn xa xc xs xk ks ch), (xs, .inr (1, [.ref xsd, .ref xsu, .int (nI na)])), (xsd, .inl (cI, 6, .inl zz)), (xsu, .inl (cI, 6, .inl g))] : va_W)) ecell) ?_
    have ecell : g = (askF na g a b b) := by rw [askF, if_neg no]
    refine g_ws (ws2 := [(xo, o5 xt xp xd xn xa xc xs xk ks ch), (xs, .inr (1, [.ref xsd, .ref xsu, .int (nI na)])), (xsd, .inl (cI, 6, .inl (askF na f a b a))), (xsu, .inl (cI, 6, .inl (askF na g a b b)))]) (congrArg (fun zz : Nat → Int32 => ([(xo, o5 xt xp xd xn xa xc xs xk ks ch), (xs, .inr (1, [.ref xsd, .ref xsu, .int (nI na)])), (xsd, .inl (cI, 6, .inl (askF na f a b a))), (xsu, .inl (cI, 6, .inl zz))] : va_W)) ecell) ?_
    have efld : (na : Nat) = askN na a b := by rw [askN, if_neg no]
    refine g_ws (ws2 := [(xo, o5 xt xp xd xn xa xc xs xk ks ch), (xs, .inr (1, [.ref xsd, .ref xsu, .int (nI (askN na a b))])), (xsd, .inl (cI, 6, .inl (askF na f a b a))), (xsu, .inl (cI, 6, .inl (askF na g a b b)))]) (congrArg (fun zz : Nat => ([(xo, o5 xt xp xd xn xa xc xs xk ks ch), (xs, .inr (1, [.ref xsd, .ref xsu, .int (nI zz)])), (xsd, .inl (cI, 6, .inl (askF na f a b a))), (xsu, .inl (cI, 6, .inl (askF na g a b b)))] : va_W)) efld) ?_
    refine g_bipush (v := (-2)) hC dX5_ask_20 (by decide +kernel) ?_
    subst hQ
    refine g_iret (v := -2) hC () hr ?_ rfl dX5_ask_22
    rw [askR, if_neg no]
  refine g_iload_n hC 2 dX5_ask_14 rfl rfl ?_
  refine g_bipush (v := nI 30) hC dX5_ask_15 (by decide +kernel) ?_
  refine g_icmp_le hC 23 dX5_ask_17 (by decide) (fun h17t => ?_) (fun h17f => ?_)
  · refine g_aload_n hC 0 dX5_ask_23 rfl rfl ?_
    refine g_get (C := RX5) (T := TX5) (N := 10) (ci := 5) (v := .ref xs) hC hcw5 0 rfl rfl 6 (by decide) w1 (fun _ h => h) rfl dX5_ask_24 ?_
    refine g_getN (C := RX1) (T := TX1) (N := 3) (ci := 1) (v := .int (nI na)) hC hcw1 1 rfl rfl 2 (by decide) (hC.2.2.1.f 13 rfl) (fun _ h => h) rfl dX5_ask_27 ?_
    refine g_bipush (v := nI 6) hC dX5_ask_30 (by decide +kernel) ?_
    refine g_icmp_lt_n (a := na) (b := 6) hC (by omega) (by omega) 38 dX5_ask_32 (by decide) (fun h32t => ?_) (fun h32f => ?_)
    · refine g_aload_n hC 0 dX5_ask_38 rfl rfl ?_
      refine g_get (C := RX5) (T := TX5) (N := 10) (ci := 5) (v := .ref xs) hC hcw5 0 rfl rfl 6 (by decide) w1 (fun _ h => h) rfl dX5_ask_39 ?_
      refine g_iload_n hC 1 dX5_ask_42 rfl rfl ?_
      refine g_iload_n hC 2 dX5_ask_43 rfl rfl ?_
      refine g_callVv (As := [.int a, .int b]) (rest := []) hC (c_X1_add l D cI cZ xs xsd xsu f g na a b (by first | assumption | omega)) (cwV 2 hC.1.2.2.2.2 gX5_ask_X1_add rfl rfl rfl dV_X1_add ⟨Nat.le_of_ble_eq_true rfl, Nat.le_of_ble_eq_true rfl⟩) rfl rfl rfl rfl (Nat.le_of_ble_eq_true rfl) dX5_ask_44 ⟨Nat.le_of_ble_eq_true rfl, Nat.le_of_ble_eq_true rfl⟩ [1, 2, 3] [0] [0, 1, 2, 3] (fun (_ : Unit) => [(xo, o5 xt xp xd xn xa xc xs xk ks ch), (xs, .inr (1, [.ref xsd, .ref xsu, .int (nI (na + 1))])), (xsd, .inl (cI, 6, .inl (upd f na a))), (xsu, .inl (cI, 6, .inl (upd g na b)))]) rfl rfl rfl (fun _ => rfl) (fun z44 hp44 => ?_)
      refine g_is (ws2 := [(xo, o5 xt xp xd xn xa xc xs xk ks ch), (xs, .inr (1, [.ref xsd, .ref xsu, .int (nI (na + 1))])), (xsd, .inl (cI, 6, .inl (upd f na a))), (xsu, .inl (cI, 6, .inl (upd g na b)))]) (lv2 := [(0, .ref xo), (1, .int a), (2, .int b)]) (st2 := []) rfl rfl rfl ?_
      refine g_aload_n hC 0 dX5_ask_47 rfl rfl ?_
      refine g_get (C := RX5) (T := TX5) (N := 10) (ci := 5) (v := .ref xs) hC hcw5 0 rfl rfl 6 (by decide) w1 (fun _ h => h) rfl dX5_ask_48 ?_
      refine g_getN (C := RX1) (T := TX1) (N := 3) (ci := 1) (v := .int (nI (na + 1))) hC hcw1 1 rfl rfl 2 (by decide) (hC.2.2.1.f 13 rfl) (fun _ h => h) rfl dX5_ask_51 ?_
      have ok : ((nI 0 ≤ a ∧ a ≤ nI 8) ∧ (nI 0 ≤ b ∧ b ≤ nI 30)) := ⟨⟨Int32.not_lt.mp h1f, Int32.not_lt.mp h7f⟩, Int32.not_lt.mp h11f, h17t⟩
      have ecell : (upd f na a) = (askF na f a b a) := by rw [askF, if_pos ok, if_pos h32t]
      refine g_ws (ws2 := [(xo, o5 xt xp xd xn xa xc xs xk ks ch), (xs, .inr (1, [.ref xsd, .ref xsu, .int (nI (na + 1))])), (xsd, .inl (cI, 6, .inl (askF na f a b a))), (xsu, .inl (cI, 6, .inl (upd g na b)))]) (congrArg (fun zz : Nat → Int32 => ([(xo, o5 xt xp xd xn xa xc xs xk ks ch), (xs, .inr (1, [.ref xsd, .ref xsu, .int (nI (na + 1))])), (xsd, .inl (cI, 6, .inl zz)), (xsu, .inl (cI, 6, .inl (upd g na b)))] : va_W)) ecell) ?_
      have ecell : (upd g na b) = (askF na g a b b) := by rw [askF, if_pos ok, if_pos h32t]
      refine g_ws (ws2 := [(xo, o5 xt xp xd xn xa xc xs xk ks ch), (xs, .inr (1, [.ref xsd, .ref xsu, .int (nI (na + 1))])), (xsd, .inl (cI, 6, .inl (askF na f a b a))), (xsu, .inl (cI, 6, .inl (askF na g a b b)))]) (congrArg (fun zz : Nat → Int32 => ([(xo, o5 xt xp xd xn xa xc xs xk ks ch), (xs, .inr (1, [.ref xsd, .ref xsu, .int (nI (na + 1))])), (xsd, .inl (cI, 6, .inl (askF na f a b a))), (xsu, .inl (cI, 6, .inl zz))] : va_W)) ecell) ?_
      have efld : (na + 1 : Nat) = askN na a b := by rw [askN, if_pos ok, if_pos h32t]
      refine g_ws (ws2 := [(xo, o5 xt xp xd xn xa xc xs xk ks ch), (xs, .inr (1, [.ref xsd, .ref xsu, .int (nI (askN na a b))])), (xsd, .inl (cI, 6, .inl (askF na f a b a))), (xsu, .inl (cI, 6, .inl (askF na g a b b)))]) (congrArg (fun zz : Nat => ([(xo, o5 xt xp xd xn xa xc xs xk ks ch), (xs, .inr (1, [.ref xsd, .ref xsu, .int (nI zz)])), (xsd, .inl (cI, 6, .inl (askF na f a b a))), (xsu, .inl (cI, 6, .inl (askF na g a b b)))] : va_W)) efld) ?_
      subst hQ
      refine g_iret (v := nI (na + 1)) hC () hr ?_ rfl dX5_ask_54
      rw [askR, if_pos ok, if_pos h32t]
    have ok : ((nI 0 ≤ a ∧ a ≤ nI 8) ∧ (nI 0 ≤ b ∧ b ≤ nI 30)) := ⟨⟨Int32.not_lt.mp h1f, Int32.not_lt.mp h7f⟩, Int32.not_lt.mp h11f, h17t⟩
    have ecell : f = (askF na f a b a) := by rw [askF, if_pos ok, if_neg (by omega)]
    refine g_ws (ws2 := [(xo, o5 xt xp xd xn xa xc xs xk ks ch), (xs, .inr (1, [.ref xsd, .ref xsu, .int (nI na)])), (xsd, .inl (cI, 6, .inl (askF na f a b a))), (xsu, .inl (cI, 6, .inl g))]) (congrArg (fun zz : Nat → Int32 => ([(xo, o5 xt xp xd xn xa xc xs xk ks ch), (xs, .inr (1, [.ref xsd, .ref xsu, .int (nI na)])), (xsd, .inl (cI, 6, .inl zz)), (xsu, .inl (cI, 6, .inl g))] : va_W)) ecell) ?_
    have ecell : g = (askF na g a b b) := by rw [askF, if_pos ok, if_neg (by omega)]
    refine g_ws (ws2 := [(xo, o5 xt xp xd xn xa xc xs xk ks ch), (xs, .inr (1, [.ref xsd, .ref xsu, .int (nI na)])), (xsd, .inl (cI, 6, .inl (askF na f a b a))), (xsu, .inl (cI, 6, .inl (askF na g a b b)))]) (congrArg (fun zz : Nat → Int32 => ([(xo, o5 xt xp xd xn xa xc xs xk ks ch), (xs, .inr (1, [.ref xsd, .ref xsu, .int (nI na)])), (xsd, .inl (cI, 6, .inl (askF na f a b a))), (xsu, .inl (cI, 6, .inl zz))] : va_W)) ecell) ?_
    have efld : (na : Nat) = askN na a b := by rw [askN, if_pos ok, if_neg (by omega)]
    refine g_ws (ws2 := [(xo, o5 xt xp xd xn xa xc xs xk ks ch), (xs, .inr (1, [.ref xsd, .ref xsu, .int (nI (askN na a b))])), (xsd, .inl (cI, 6, .inl (askF na f a b a))), (xsu, .inl (cI, 6, .inl (askF na g a b b)))]) (congrArg (fun zz : Nat => ([(xo, o5 xt xp xd xn xa xc xs xk ks ch), (xs, .inr (1, [.ref xsd, .ref xsu, .int (nI zz)])), (xsd, .inl (cI, 6, .inl (askF na f a b a))), (xsu, .inl (cI, 6, .inl (askF na g a b b)))] : va_W)) efld) ?_
    refine g_bipush (v := (-4)) hC dX5_ask_35 (by decide +kernel) ?_
    subst hQ
    refine g_iret (v := -4) hC () hr ?_ rfl dX5_ask_37
    rw [askR, if_pos ok, if_neg (by omega)]
  have no : ¬ ((nI 0 ≤ a ∧ a ≤ nI 8) ∧ (nI 0 ≤ b ∧ b ≤ nI 30)) := fun q => absurd q.2.2 h17f
  have ecell : f = (askF na f a b a) := by rw [askF, if_neg no]
  refine g_ws (ws2 := [(xo, o5 xt xp xd xn xa xc xs xk ks ch), (xs, .inr (1, [.ref xsd, .ref xsu, .int (nI na)])), (xsd, .inl (cI, 6, .inl (askF na f a b a))), (xsu, .inl (cI, 6, .inl g))]) (congrArg (fun zz : Nat → Int32 => ([(xo, o5 xt xp xd xn xa xc xs xk ks ch), (xs, .inr (1, [.ref xsd, .ref xsu, .int (nI na)])), (xsd, .inl (cI, 6, .inl zz)), (xsu, .inl (cI, 6, .inl g))] : va_W)) ecell) ?_
  have ecell : g = (askF na g a b b) := by rw [askF, if_neg no]
  refine g_ws (ws2 := [(xo, o5 xt xp xd xn xa xc xs xk ks ch), (xs, .inr (1, [.ref xsd, .ref xsu, .int (nI na)])), (xsd, .inl (cI, 6, .inl (askF na f a b a))), (xsu, .inl (cI, 6, .inl (askF na g a b b)))]) (congrArg (fun zz : Nat → Int32 => ([(xo, o5 xt xp xd xn xa xc xs xk ks ch), (xs, .inr (1, [.ref xsd, .ref xsu, .int (nI na)])), (xsd, .inl (cI, 6, .inl (askF na f a b a))), (xsu, .inl (cI, 6, .inl zz))] : va_W)) ecell) ?_
  have efld : (na : Nat) = askN na a b := by rw [askN, if_neg no]
  refine g_ws (ws2 := [(xo, o5 xt xp xd xn xa xc xs xk ks ch), (xs, .inr (1, [.ref xsd, .ref xsu, .int (nI (askN na a b))])), (xsd, .inl (cI, 6, .inl (askF na f a b a))), (xsu, .inl (cI, 6, .inl (askF na g a b b)))]) (congrArg (fun zz : Nat => ([(xo, o5 xt xp xd xn xa xc xs xk ks ch), (xs, .inr (1, [.ref xsd, .ref xsu, .int (nI zz)])), (xsd, .inl (cI, 6, .inl (askF na f a b a))), (xsu, .inl (cI, 6, .inl (askF na g a b b)))] : va_W)) efld) ?_
  refine g_bipush (v := (-2)) hC dX5_ask_20 (by decide +kernel) ?_
  subst hQ
  refine g_iret (v := -2) hC () hr ?_ rfl dX5_ask_22
  rw [askR, if_neg no]

abbrev rm_X5_unask : Room := { frames := 0, cells := 0, slots := 0, locals := 0 }
set_option maxRecDepth 100000 in
set_option maxHeartbeats 4000000 in
theorem c_X5_unask (l : Launch) (D : va_G) (cI cZ : ClassId) (xo : Nat) (xt : Nat) (xp : Nat) (xd : Nat) (xn : Nat) (xa : Nat) (xc : Nat) (xs : Nat) (xk : Nat) (ks : Int32) (ch : Int64) (xsd : Nat) (xsu : Nat) (f : Nat → Int32) (g : Nat → Int32) (na : Nat) : CtI l yX5_unask wsX5_unask rm_X5_unask D cI cZ [.ref xo] [(xo, o5 xt xp xd xn xa xc xs xk ks ch), (xs, .inr (1, [.ref xsd, .ref xsu, .int (nI na)])), (xsd, .inl (cI, 6, .inl f)), (xsu, .inl (cI, 6, .inl g))] (fun r (_ : Unit) => r = nI na) (fun (_ : Unit) => [(xo, o5 xt xp xd xn xa xc xs xk ks ch), (xs, .inr (1, [.ref xsd, .ref xsu, .int (nI 0)])), (xsd, .inl (cI, 6, .inl f)), (xsu, .inl (cI, 6, .inl g))]) 0 0 := by
  refine g_startI (ret := (some .int)) (own := RX5) (lv0 := [(0, .ref xo)]) (by decide) rfl rfl (Nat.le_of_ble_eq_true rfl) rfl ?_
  intro p e s m args below meth cd A Q hin hr hQ hC
  have hcw1 : ∀ w ∈ wsX10, w ∈ wsX5_unask := fun _ h => List.mem_cons_of_mem _ (List.mem_append_right _ h)
  have hcw5 : ∀ w ∈ wsX50, w ∈ wsX5_unask := fun _ h => List.mem_cons_of_mem _ (List.mem_append_left _ (List.mem_append_right _ h))
  have w1 := hC.1.2.2.2.2 (.fieldLink "PluckBroker" 48 "PluckBroker" "asked" "LPluckBroker$Asked;") (List.mem_of_getElem? (i := 1) rfl)
  refine g_aload_n hC 0 dX5_unask_0 rfl rfl ?_
  refine g_get (C := RX5) (T := TX5) (N := 10) (ci := 5) (v := .ref xs) hC hcw5 0 rfl rfl 6 (by decide) w1 (fun _ h => h) rfl dX5_unask_1 ?_
  refine g_getN (C := RX1) (T := TX1) (N := 3) (ci := 1) (v := .int (nI na)) hC hcw1 1 rfl rfl 2 (by decide) (hC.2.2.1.f 13 rfl) (fun _ h => h) rfl dX5_unask_4 ?_
  refine g_istore_n (lv' := [(0, .ref xo), (1, .int (nI na))]) hC [1, 0] dX5_unask_7 rfl (by decide) rfl ?_
  refine g_aload_n hC 0 dX5_unask_8 rfl rfl ?_
  refine g_get (C := RX5) (T := TX5) (N := 10) (ci := 5) (v := .ref xs) hC hcw5 0 rfl rfl 6 (by decide) w1 (fun _ h => h) rfl dX5_unask_9 ?_
  refine g_iconst (v := nI 0) hC dX5_unask_12 rfl ?_
  refine g_putN (C := RX1) (T := TX1) (N := 3) (ci := 1) (v := .int (nI 0)) hC hcw1 tyX1 tyX1_ok nmX1 1 rfl rfl 2 (by decide) (hC.2.2.1.f 13 rfl) (fun _ h => h) rfl (tyX1_ok 2 (by decide)) rfl rfl (Nat.le_of_ble_eq_true rfl) [(xo, o5 xt xp xd xn xa xc xs xk ks ch), (xs, .inr (1, [.ref xsd, .ref xsu, .int (nI 0)])), (xsd, .inl (cI, 6, .inl f)), (xsu, .inl (cI, 6, .inl g))] rfl dX5_unask_13 ?_
  refine g_iload_n hC 1 dX5_unask_16 rfl rfl ?_
  subst hQ
  refine g_iret (v := nI na) hC () hr ?_ rfl dX5_unask_17
  rfl

abbrev rm_X5_tickets : Room := { frames := 2, cells := 0, slots := 0, locals := 47 }
set_option maxRecDepth 100000 in
set_option maxHeartbeats 4000000 in
theorem c_X5_tickets (l : Launch) (D : va_G) (cI cZ : ClassId) (xo : Nat) (xt : Nat) (xp : Nat) (xd : Nat) (xn : Nat) (xa : Nat) (xc : Nat) (xs : Nat) (xk : Nat) (ks : Int32) (ch : Int64) (xsd : Nat) (xsu : Nat) (f : Nat → Int32) (g : Nat → Int32) (na : Nat) (a : Int32) (hna : na ≤ 6) : CtI l yX5_tickets wsX5_tickets rm_X5_tickets D cI cZ [.ref xo, .int a] [(xo, o5 xt xp xd xn xa xc xs xk ks ch), (xs, .inr (1, [.ref xsd, .ref xsu, .int (nI na)])), (xsd, .inl (cI, 6, .inl f)), (xsu, .inl (cI, 6, .inl g))] (fun r (_ : Unit) => r = ticketsR f g na a) (fun (_ : Unit) => [(xo, o5 xt xp xd xn xa xc xs xk ks ch), (xs, .inr (1, [.ref xsd, .ref xsu, .int (nI na)])), (xsd, .inl (cI, 6, .inl f)), (xsu, .inl (cI, 6, .inl g))]) 0 0 := by
  refine g_startI (ret := (some .int)) (own := RX5) (lv0 := [(0, .ref xo), (1, .int a)]) (by decide) rfl rfl (Nat.le_of_ble_eq_true rfl) rfl ?_
  intro p e s m args below meth cd A Q hin hr hQ hC
  have hcw5 : ∀ w ∈ wsX50, w ∈ wsX5_tickets := fun _ h => List.mem_cons_of_mem _ (List.mem_append_left _ (List.mem_append_right _ h))
  have w1 := hC.1.2.2.2.2 (.fieldLink "PluckBroker" 48 "PluckBroker" "asked" "LPluckBroker$Asked;") (List.mem_of_getElem? (i := 1) rfl)
  refine g_iload_n hC 1 dX5_tickets_0 rfl rfl ?_
  refine g_callSip (As := [.int a]) (rest := []) hC (bI (¬ okC a)) (c_X5_isNoChoice l D cI cZ a) (va_cwS 1 hC.1.2.2.2.2 gX5_tickets_X5_isNoChoice rfl rfl rfl dS_X5_isNoChoice ⟨Nat.le_of_ble_eq_true rfl, Nat.le_of_ble_eq_true rfl⟩) rfl rfl (Nat.le_of_ble_eq_true rfl) dX5_tickets_1 ⟨Nat.le_of_ble_eq_true rfl, Nat.le_of_ble_eq_true rfl⟩ [] rfl rfl ?_
  refine g_if_eq_b hC 10 dX5_tickets_4 (by decide) (fun h4t => ?_) (fun h4f => ?_)
  · obtain ⟨wn, hwn, rfl⟩ := ok_n (M := 1) (by decide) (Decidable.not_not.mp h4t)
    have okw : okC (nI wn) := ok_k (M := 1) (by decide) hwn
    refine g_iconst (v := nI 0) hC dX5_tickets_10 rfl ?_
    refine g_istore_n (lv' := [(0, .ref xo), (1, .int (nI wn)), (2, .int (nI 0))]) hC [1, 2, 0] dX5_tickets_11 rfl (by decide) rfl ?_
    refine g_bipush (v := (-9)) hC dX5_tickets_12 (by decide +kernel) ?_
    refine g_istore_n (lv' := [(0, .ref xo), (1, .int (nI wn)), (2, .int (nI 0)), (3, .int (-9))]) hC [1, 2, 3, 0] dX5_tickets_14 rfl (by decide) rfl ?_
    refine g_iconst (v := nI 0) hC dX5_tickets_15 rfl ?_
    refine g_istore (lv' := [(0, .ref xo), (1, .int (nI wn)), (2, .int (nI 0)), (3, .int (-9)), (4, .int (nI 0))]) hC [1, 2, 3, 4, 0] dX5_tickets_16 (by decide) rfl ?_
    have L18 : ∀ (n : Nat) (kk : Nat) (fo : Nat) (x : Int32), (kk ≤ 4) → (fo ≤ 9 * kk) → (fo = tkN f g na (9 * kk)) → (x = tkF f g na (9 * kk)) → 4 - kk < n → G p l e rm_X5_tickets s m args below meth cd D A 0 0 Q 6 [(xo, o5 xt xp xd xn xa xc xs xk ks ch), (xs, .inr (1, [.ref xsd, .ref xsu, .int (nI na)])), (xsd, .inl (cI, 6, .inl f)), (xsu, .inl (cI, 6, .inl g))] 18 [(0, .ref xo), (1, .int (nI wn)), (2, .int (nI fo)), (3, .int x), (4, .int (nI kk))] [] := by
      intro n
      induction n with
      | zero => intro kk fo x hkk hfo hf hx hn; exact absurd hn (Nat.not_lt_zero _)
      | succ n ih18 =>
        intro kk fo x hkk hfo hf hx hn
        refine g_iload hC 4 dX5_tickets_18 rfl ?_
        refine g_iconst (v := nI 3) hC dX5_tickets_20 rfl ?_
        refine g_icmp_gt_n (a := kk) (b := 3) hC (by omega) (by omega) 80 dX5_tickets_21 (by decide) (fun h21t => ?_) (fun h21f => ?_)
        · have ei : kk = 4 := by omega
          rw [ei] at hf hx
          refine g_iload_n hC 1 dX5_tickets_80 rfl rfl ?_
          refine g_if_ne_n (a := wn) hC (by omega) 88 dX5_tickets_81 (by decide) (fun h81t => ?_) (fun h81f => ?_)
          · refine g_iload_n hC 3 dX5_tickets_88 rfl rfl ?_
            subst hQ
            refine g_iret (v := x) hC () hr ?_ rfl dX5_tickets_89
            rw [ticketsR, if_pos okw, if_neg (fun q => h81t ((nI_eq (by omega) (by decide)).mp q))]; exact hx
          refine g_iload_n hC 2 dX5_tickets_84 rfl rfl ?_
          refine g_goto hC 89 dX5_tickets_85 (by decide) ?_
          subst hQ
          refine g_iret (v := nI fo) hC () hr ?_ rfl dX5_tickets_89
          rw [ticketsR, if_pos okw, if_pos (by rw [h81f])]; rw [hf]
        refine g_iconst (v := nI 1) hC dX5_tickets_24 rfl ?_
        refine g_istore (lv' := [(0, .ref xo), (1, .int (nI wn)), (2, .int (nI fo)), (3, .int x), (4, .int (nI kk)), (5, .int (nI 1))]) hC [1, 2, 3, 4, 5, 0] dX5_tickets_25 (by decide) rfl ?_
        have L27 : ∀ (n : Nat) (w : Nat) (fo2 : Nat) (x2 : Int32), (1 ≤ w) → (w ≤ 10) → (fo2 ≤ 9 * kk + (w - 1)) → (fo2 = tkN f g na (9 * kk + (w - 1))) → (x2 = tkF f g na (9 * kk + (w - 1))) → 10 - w < n → G p l e rm_X5_tickets s m args below meth cd D A 0 0 Q 6 [(xo, o5 xt xp xd xn xa xc xs xk ks ch), (xs, .inr (1, [.ref xsd, .ref xsu, .int (nI na)])), (xsd, .inl (cI, 6, .inl f)), (xsu, .inl (cI, 6, .inl g))] 27 [(0, .ref xo), (1, .int (nI wn)), (2, .int (nI fo2)), (3, .int x2), (4, .int (nI kk)), (5, .int (nI w))] [] := by
          intro n
          induction n with
          | zero => intro w fo2 x2 hw1 hw hfo2 hf2 hx2 hn; exact absurd hn (Nat.not_lt_zero _)
          | succ n ih27 =>
            intro w fo2 x2 hw1 hw hfo2 hf2 hx2 hn
            refine g_iload hC 5 dX5_tickets_27 rfl ?_
            refine g_bipush (v := nI 9) hC dX5_tickets_29 (by decide +kernel) ?_
            refine g_icmp_gt_n (a := w) (b := 9) hC (by omega) (by omega) 74 dX5_tickets_31 (by decide) (fun h31t => ?_) (fun h31f => ?_)
            · refine g_iinc (v := nI (kk + 1)) (lv' := [(0, .ref xo), (1, .int (nI wn)), (2, .int (nI fo2)), (3, .int x2), (4, .int (nI (kk + 1))), (5, .int (nI w))]) hC 4 [1, 2, 3, 4, 0, 5] dX5_tickets_74 rfl (nI_add _ 1) (by decide) rfl ?_
              refine g_goto hC 18 dX5_tickets_77 (by decide) ?_
              refine g_lv [0, 1, 2, 3, 4] (lv2 := [(0, .ref xo), (1, .int (nI wn)), (2, .int (nI fo2)), (3, .int x2), (4, .int (nI (kk + 1)))]) rfl ?_
              refine ih18 (kk + 1) fo2 x2 ?_ ?_ ?_ ?_ ?_
              · omega
              · omega
              · rw [hf2, show 9 * kk + (w - 1) = 9 * (kk + 1) by omega]
              · rw [hx2, show 9 * kk + (w - 1) = 9 * (kk + 1) by omega]
              · omega
            refine g_aload_n hC 0 dX5_tickets_34 rfl rfl ?_
            refine g_get (C := RX5) (T := TX5) (N := 10) (ci := 5) (v := .ref xs) hC hcw5 0 rfl rfl 6 (by decide) w1 (fun _ h => h) rfl dX5_tickets_35 ?_
            refine g_iload hC 4 dX5_tickets_38 rfl ?_
            refine g_iload hC 5 dX5_tickets_40 rfl ?_
            refine g_callVip (As := [.int (nI kk), .int (nI w)]) (rest := []) hC (bI (fitsF f g na (nI kk) (nI w))) (c_X1_fits l D cI cZ xs xsd xsu f g na (nI kk) (nI w) (by first | assumption | omega)) (cwV 2 hC.1.2.2.2.2 gX5_tickets_X1_fits rfl rfl rfl dV_X1_fits ⟨Nat.le_of_ble_eq_true rfl, Nat.le_of_ble_eq_true rfl⟩) rfl rfl rfl rfl (Nat.le_of_ble_eq_true rfl) dX5_tickets_42 ⟨Nat.le_of_ble_eq_true rfl, Nat.le_of_ble_eq_true rfl⟩ [1, 2, 3] rfl rfl ?_
            refine g_if_eq_b hC 68 dX5_tickets_45 (by decide) (fun h45t => ?_) (fun h45f => ?_)
            · refine g_iinc (v := nI (w + 1)) (lv' := [(0, .ref xo), (1, .int (nI wn)), (2, .int (nI fo2)), (3, .int x2), (4, .int (nI kk)), (5, .int (nI (w + 1)))]) hC 5 [1, 2, 3, 4, 5, 0] dX5_tickets_68 rfl (nI_add _ 1) (by decide) rfl ?_
              refine g_goto hC 27 dX5_tickets_71 (by decide) ?_
              refine ih27 (w + 1) fo2 x2 ?_ ?_ ?_ ?_ ?_ ?_
              · omega
              · omega
              · omega
              · have e9 : (9 * kk + (w - 1)) / 9 = kk := by omega
                have e10 : (9 * kk + (w - 1)) % 9 + 1 = w := by omega
                rw [show 9 * kk + (w + 1 - 1) = (9 * kk + (w - 1)) + 1 by omega]
                show _ = tkN f g na (9 * kk + (w - 1)) + (if fitsF f g na (nI ((9 * kk + (w - 1)) / 9)) (nI ((9 * kk + (w - 1)) % 9 + 1)) then 1 else 0)
                rw [e9, e10, ← hf2, if_neg h45t]; rfl --]
              · have e9 : (9 * kk + (w - 1)) / 9 = kk := by omega
                have e10 : (9 * kk + (w - 1)) % 9 + 1 = w := by omega
                rw [show 9 * kk + (w + 1 - 1) = (9 * kk + (w - 1)) + 1 by omega]
                show _ = (if fitsF f g na (nI ((9 * kk + (w - 1)) / 9)) (nI ((9 * kk + (w - 1)) % 9 + 1)) ∧ tkN f g na (9 * kk + (w - 1)) = 0 then nI (10 * ((9 * kk + (w - 1)) / 9) + ((9 * kk + (w - 1)) % 9 + 1)) else tkF f g na (9 * kk + (w - 1)))
                rw [e9, e10, ← hf2, ← hx2]
                rw [if_neg (fun q => h45t q.1)]
              · omega
            refine g_iload_n hC 2 dX5_tickets_48 rfl rfl ?_
            refine g_if_ne_n (a := fo2) hC (by omega) 63 dX5_tickets_49 (by decide) (fun h49t => ?_) (fun h49f => ?_)
            · refine g_iload_n hC 3 dX5_tickets_63 rfl rfl ?_
              refine g_istore_n (lv' := [(0, .ref xo), (1, .int (nI wn)), (2, .int (nI fo2)), (3, .int x2), (4, .int (nI kk)), (5, .int (nI w))]) hC [1, 2, 3, 0, 4, 5] dX5_tickets_64 rfl (by decide) rfl ?_
              refine g_iinc (v := nI (fo2 + 1)) (lv' := [(0, .ref xo), (1, .int (nI wn)), (2, .int (nI (fo2 + 1))), (3, .int x2), (4, .int (nI kk)), (5, .int (nI w))]) hC 2 [1, 2, 0, 3, 4, 5] dX5_tickets_65 rfl (nI_add _ 1) (by decide) rfl ?_
              refine g_iinc (v := nI (w + 1)) (lv' := [(0, .ref xo), (1, .int (nI wn)), (2, .int (nI (fo2 + 1))), (3, .int x2), (4, .int (nI kk)), (5, .int (nI (w + 1)))]) hC 5 [1, 2, 3, 4, 5, 0] dX5_tickets_68 rfl (nI_add _ 1) (by decide) rfl ?_
              refine g_goto hC 27 dX5_tickets_71 (by decide) ?_
              refine ih27 (w + 1) (fo2 + 1) x2 ?_ ?_ ?_ ?_ ?_ ?_
              · omega
              · omega
              · omega
              · have e9 : (9 * kk + (w - 1)) / 9 = kk := by omega
                have e10 : (9 * kk + (w - 1)) % 9 + 1 = w := by omega
                rw [show 9 * kk + (w + 1 - 1) = (9 * kk + (w - 1)) + 1 by omega]
                show _ = tkN f g na (9 * kk + (w - 1)) + (if fitsF f g na (nI ((9 * kk + (w - 1)) / 9)) (nI ((9 * kk + (w - 1)) % 9 + 1)) then 1 else 0)
                rw [e9, e10, ← hf2, if_pos h45f]
              · have e9 : (9 * kk + (w - 1)) / 9 = kk := by omega
                have e10 : (9 * kk + (w - 1)) % 9 + 1 = w := by omega
                rw [show 9 * kk + (w + 1 - 1) = (9 * kk + (w - 1)) + 1 by omega]
                show _ = (if fitsF f g na (nI ((9 * kk + (w - 1)) / 9)) (nI ((9 * kk + (w - 1)) % 9 + 1)) ∧ tkN f g na (9 * kk + (w - 1)) = 0 then nI (10 * ((9 * kk + (w - 1)) / 9) + ((9 * kk + (w - 1)) % 9 + 1)) else tkF f g na (9 * kk + (w - 1)))
                rw [e9, e10, ← hf2, ← hx2]
                rw [if_neg (fun q => h49t q.2)]
              · omega
            refine g_bipush (v := nI 10) hC dX5_tickets_52 (by decide +kernel) ?_
            refine g_iload hC 4 dX5_tickets_54 rfl ?_
            refine g_imul_n (a := 10) (b := kk) hC dX5_tickets_56 ?_
            refine g_iload hC 5 dX5_tickets_57 rfl ?_
            refine g_iadd_n (a := (10 * kk)) (b := w) hC dX5_tickets_59 ?_
            refine g_goto hC 64 dX5_tickets_60 (by decide) ?_
            refine g_istore_n (lv' := [(0, .ref xo), (1, .int (nI wn)), (2, .int (nI fo2)), (3, .int (nI (10 * kk + w))), (4, .int (nI kk)), (5, .int (nI w))]) hC [1, 2, 3, 0, 4, 5] dX5_tickets_64 rfl (by decide) rfl ?_
            refine g_iinc (v := nI (fo2 + 1)) (lv' := [(0, .ref xo), (1, .int (nI wn)), (2, .int (nI (fo2 + 1))), (3, .int (nI (10 * kk + w))), (4, .int (nI kk)), (5, .int (nI w))]) hC 2 [1, 2, 0, 3, 4, 5] dX5_tickets_65 rfl (nI_add _ 1) (by decide) rfl ?_
            refine g_iinc (v := nI (w + 1)) (lv' := [(0, .ref xo), (1, .int (nI wn)), (2, .int (nI (fo2 + 1))), (3, .int (nI (10 * kk + w))), (4, .int (nI kk)), (5, .int (nI (w + 1)))]) hC 5 [1, 2, 3, 4, 5, 0] dX5_tickets_68 rfl (nI_add _ 1) (by decide) rfl ?_
            refine g_goto hC 27 dX5_tickets_71 (by decide) ?_
            refine ih27 (w + 1) (fo2 + 1) (nI (10 * kk + w)) ?_ ?_ ?_ ?_ ?_ ?_
            · omega
            · omega
            · omega
            · have e9 : (9 * kk + (w - 1)) / 9 = kk := by omega
              have e10 : (9 * kk + (w - 1)) % 9 + 1 = w := by omega
              rw [show 9 * kk + (w + 1 - 1) = (9 * kk + (w - 1)) + 1 by omega]
              show _ = tkN f g na (9 * kk + (w - 1)) + (if fitsF f g na (nI ((9 * kk + (w - 1)) / 9)) (nI ((9 * kk + (w - 1)) % 9 + 1)) then 1 else 0)
              rw [e9, e10, ← hf2, if_pos h45f]
            · have e9 : (9 * kk + (w - 1)) / 9 = kk := by omega
              have e10 : (9 * kk + (w - 1)) % 9 + 1 = w := by omega
              rw [show 9 * kk + (w + 1 - 1) = (9 * kk + (w - 1)) + 1 by omega]
              show _ = (if fitsF f g na (nI ((9 * kk + (w - 1)) / 9)) (nI ((9 * kk + (w - 1)) % 9 + 1)) ∧ tkN f g na (9 * kk + (w - 1)) = 0 then nI (10 * ((9 * kk + (w - 1)) / 9) + ((9 * kk + (w - 1)) % 9 + 1)) else tkF f g na (9 * kk + (w - 1)))
              rw [e9, e10, ← hf2, ← hx2]
              rw [if_pos ⟨h45f, h49f⟩]
            · omega
        refine L27 _ 1 fo x ?_ ?_ ?_ ?_ ?_ (Nat.lt_succ_self _)
        · omega
        · omega
        · omega
        · exact hf
        · exact hx
    refine L18 _ 0 0 (-9) ?_ ?_ ?_ ?_ (Nat.lt_succ_self _)
    · omega
    · omega
    · rfl
    · rfl
  refine g_bipush (v := (-2)) hC dX5_tickets_7 (by decide +kernel) ?_
  subst hQ
  refine g_iret (v := -2) hC () hr ?_ rfl dX5_tickets_9
  rw [ticketsR, if_neg h4f]
