set_option maxRecDepth 100000 in
theorem s_J6_bitCount_0f7a4 (a : Int32) {Q : Int32 → Prop} (hq : ∀ (r : Int32), True → Q r) : wp_J6_bitCount_0f7a4 a Q := by
  unfold wp_J6_bitCount_0f7a4
  have t1 : 0 ≤ (Int32.toInt ((a.toUInt32 >>> ((1 : Int32).toUInt32 &&& Int32.toUInt32 31)).toInt32 &&& 1431655765)) ∧ (Int32.toInt ((a.toUInt32 >>> ((1 : Int32).toUInt32 &&& Int32.toUInt32 31)).toInt32 &&& 1431655765)) ≤ 1431655765 := and_z (by decide)
  have t2 : 0 ≤ (Int32.toInt ((a - ((a.toUInt32 >>> ((1 : Int32).toUInt32 &&& Int32.toUInt32 31)).toInt32 &&& 1431655765)) &&& 858993459)) ∧ (Int32.toInt ((a - ((a.toUInt32 >>> ((1 : Int32).toUInt32 &&& Int32.toUInt32 31)).toInt32 &&& 1431655765)) &&& 858993459)) ≤ 858993459 := and_z (by decide)
  have t3 : 0 ≤ (Int32.toInt (((a - ((a.toUInt32 >>> ((1 : Int32).toUInt32 &&& Int32.toUInt32 31)).toInt32 &&& 1431655765)).toUInt32 >>> ((2 : Int32).toUInt32 &&& Int32.toUInt32 31)).toInt32 &&& 858993459)) ∧ (Int32.toInt (((a - ((a.toUInt32 >>> ((1 : Int32).toUInt32 &&& Int32.toUInt32 31)).toInt32 &&& 1431655765)).toUInt32 >>> ((2 : Int32).toUInt32 &&& Int32.toUInt32 31)).toInt32 &&& 858993459)) ≤ 858993459 := and_z (by decide)
  have t4 : (Int32.toInt (((a - ((a.toUInt32 >>> ((1 : Int32).toUInt32 &&& Int32.toUInt32 31)).toInt32 &&& 1431655765)) &&& 858993459) + (((a - ((a.toUInt32 >>> ((1 : Int32).toUInt32 &&& Int32.toUInt32 31)).toInt32 &&& 1431655765)).toUInt32 >>> ((2 : Int32).toUInt32 &&& Int32.toUInt32 31)).toInt32 &&& 858993459))) = (Int32.toInt ((a - ((a.toUInt32 >>> ((1 : Int32).toUInt32 &&& Int32.toUInt32 31)).toInt32 &&& 1431655765)) &&& 858993459)) + (Int32.toInt (((a - ((a.toUInt32 >>> ((1 : Int32).toUInt32 &&& Int32.toUInt32 31)).toInt32 &&& 1431655765)).toUInt32 >>> ((2 : Int32).toUInt32 &&& Int32.toUInt32 31)).toInt32 &&& 858993459)) := add_z rfl rfl (by omega) (by omega)
  have t5 : 0 ≤ (Int32.toInt (((((a - ((a.toUInt32 >>> ((1 : Int32).toUInt32 &&& Int32.toUInt32 31)).toInt32 &&& 1431655765)) &&& 858993459) + (((a - ((a.toUInt32 >>> ((1 : Int32).toUInt32 &&& Int32.toUInt32 31)).toInt32 &&& 1431655765)).toUInt32 >>> ((2 : Int32).toUInt32 &&& Int32.toUInt32 31)).toInt32 &&& 858993459)) + ((((a - ((a.toUInt32 >>> ((1 : Int32).toUInt32 &&& Int32.toUInt32 31)).toInt32 &&& 1431655765)) &&& 858993459) + (((a - ((a.toUInt32 >>> ((1 : Int32).toUInt32 &&& Int32.toUInt32 31)).toInt32 &&& 1431655765)).toUInt32 >>> ((2 : Int32).toUInt32 &&& Int32.toUInt32 31)).toInt32 &&& 858993459)).toUInt32 >>> ((4 : Int32).toUInt32 &&& Int32.toUInt32 31)).toInt32) &&& 252645135)) ∧ (Int32.toInt (((((a - ((a.toUInt32 >>> ((1 : Int32).toUInt32 &&& Int32.toUInt32 31)).toInt32 &&& 1431655765)) &&& 858993459) + (((a - ((a.toUInt32 >>> ((1 : Int32).toUInt32 &&& Int32.toUInt32 31)).toInt32 &&& 1431655765)).toUInt32 >>> ((2 : Int32).toUInt32 &&& Int32.toUInt32 31)).toInt32 &&& 858993459)) + ((((a - ((a.toUInt32 >>> ((1 : Int32).toUInt32 &&& Int32.toUInt32 31)).toInt32 &&& 1431655765)) &&& 858993459) + (((a - ((a.toUInt32 >>> ((1 : Int32).toUInt32 &&& Int32.toUInt32 31)).toInt32 &&& 1431655765)).toUInt32 >>> ((2 : Int32).toUInt32 &&& Int32.toUInt32 31)).toInt32 &&& 858993459)).toUInt32 >>> ((4 : Int32).toUInt32 &&& Int32.toUInt32 31)).toInt32) &&& 252645135)) ≤ 252645135 := and_z (by decide)
  have t6 : 0 ≤ (Int32.toInt ((((((((a - ((a.toUInt32 >>> ((1 : Int32).toUInt32 &&& Int32.toUInt32 31)).toInt32 &&& 1431655765)) &&& 858993459) + (((a - ((a.toUInt32 >>> ((1 : Int32).toUInt32 &&& Int32.toUInt32 31)).toInt32 &&& 1431655765)).toUInt32 >>> ((2 : Int32).toUInt32 &&& Int32.toUInt32 31)).toInt32 &&& 858993459)) + ((((a - ((a.toUInt32 >>> ((1 : Int32).toUInt32 &&& Int32.toUInt32 31)).toInt32 &&& 1431655765)) &&& 858993459) + (((a - ((a.toUInt32 >>> ((1 : Int32).toUInt32 &&& Int32.toUInt32 31)).toInt32 &&& 1431655765)).toUInt32 >>> ((2 : Int32).toUInt32 &&& Int32.toUInt32 31)).toInt32 &&& 858993459)).toUInt32 >>> ((4 : Int32).toUInt32 &&& Int32.toUInt32 31)).toInt32) &&& 252645135) + ((((((a - ((a.toUInt32 >>> ((1 : Int32).toUInt32 &&& Int32.toUInt32 31)).toInt32 &&& 1431655765)) &&& 858993459) + (((a - ((a.toUInt32 >>> ((1 : Int32).toUInt32 &&& Int32.toUInt32 31)).toInt32 &&& 1431655765)).toUInt32 >>> ((2 : Int32).toUInt32 &&& Int32.toUInt32 31)).toInt32 &&& 858993459)) + ((((a - ((a.toUInt32 >>> ((1 : Int32).toUInt32 &&& Int32.toUInt32 31)).toInt32 &&& 1431655765)) &&& 858993459) + (((a - ((a.toUInt32 >>> ((1 : Int32).toUInt32 &&& Int32.toUInt32 31)).toInt32 &&& 1431655765)).toUInt32 >>> ((2 : Int32).toUInt32 &&& Int32.toUInt32 31)).toInt32 &&& 858993459)).toUInt32 >>> ((4 : Int32).toUInt32 &&& Int32.toUInt32 31)).toInt32) &&& 252645135).toUInt32 >>> ((8 : Int32).toUInt32 &&& Int32.toUInt32 31)).toInt32) + (((((((a - ((a.toUInt32 >>> ((1 : Int32).toUInt32 &&& Int32.toUInt32 31)).toInt32 &&& 1431655765)) &&& 858993459) + (((a - ((a.toUInt32 >>> ((1 : Int32).toUInt32 &&& Int32.toUInt32 31)).toInt32 &&& 1431655765)).toUInt32 >>> ((2 : Int32).toUInt32 &&& Int32.toUInt32 31)).toInt32 &&& 858993459)) + ((((a - ((a.toUInt32 >>> ((1 : Int32).toUInt32 &&& Int32.toUInt32 31)).toInt32 &&& 1431655765)) &&& 858993459) + (((a - ((a.toUInt32 >>> ((1 : Int32).toUInt32 &&& Int32.toUInt32 31)).toInt32 &&& 1431655765)).toUInt32 >>> ((2 : Int32).toUInt32 &&& Int32.toUInt32 31)).toInt32 &&& 858993459)).toUInt32 >>> ((4 : Int32).toUInt32 &&& Int32.toUInt32 31)).toInt32) &&& 252645135) + ((((((a - ((a.toUInt32 >>> ((1 : Int32).toUInt32 &&& Int32.toUInt32 31)).toInt32 &&& 1431655765)) &&& 858993459) + (((a - ((a.toUInt32 >>> ((1 : Int32).toUInt32 &&& Int32.toUInt32 31)).toInt32 &&& 1431655765)).toUInt32 >>> ((2 : Int32).toUInt32 &&& Int32.toUInt32 31)).toInt32 &&& 858993459)) + ((((a - ((a.toUInt32 >>> ((1 : Int32).toUInt32 &&& Int32.toUInt32 31)).toInt32 &&& 1431655765)) &&& 858993459) + (((a - ((a.toUInt32 >>> ((1 : Int32).toUInt32 &&& Int32.toUInt32 31)).toInt32 &&& 1431655765)).toUInt32 >>> ((2 : Int32).toUInt32 &&& Int32.toUInt32 31)).toInt32 &&& 858993459)).toUInt32 >>> ((4 : Int32).toUInt32 &&& Int32.toUInt32 31)).toInt32) &&& 252645135).toUInt32 >>> ((8 : Int32).toUInt32 &&& Int32.toUInt32 31)).toInt32).toUInt32 >>> ((16 : Int32).toUInt32 &&& Int32.toUInt32 31)).toInt32) &&& 63)) ∧ (Int32.toInt ((((((((a - ((a.toUInt32 >>> ((1 : Int32).toUInt32 &&& Int32.toUInt32 31)).toInt32 &&& 1431655765)) &&& 858993459) + (((a - ((a.toUInt32 >>> ((1 : Int32).toUInt32 &&& Int32.toUInt32 31)).toInt32 &&& 1431655765)).toUInt32 >>> ((2 : Int32).toUInt32 &&& Int32.toUInt32 31)).toInt32 &&& 858993459)) + ((((a - ((a.toUInt32 >>> ((1 : Int32).toUInt32 &&& Int32.toUInt32 31)).toInt32 &&& 1431655765)) &&& 858993459) + (((a - ((a.toUInt32 >>> ((1 : Int32).toUInt32 &&& Int32.toUInt32 31)).toInt32 &&& 1431655765)).toUInt32 >>> ((2 : Int32).toUInt32 &&& Int32.toUInt32 31)).toInt32 &&& 858993459)).toUInt32 >>> ((4 : Int32).toUInt32 &&& Int32.toUInt32 31)).toInt32) &&& 252645135) + ((((((a - ((a.toUInt32 >>> ((1 : Int32).toUInt32 &&& Int32.toUInt32 31)).toInt32 &&& 1431655765)) &&& 858993459) + (((a - ((a.toUInt32 >>> ((1 : Int32).toUInt32 &&& Int32.toUInt32 31)).toInt32 &&& 1431655765)).toUInt32 >>> ((2 : Int32).toUInt32 &&& Int32.toUInt32 31)).toInt32 &&& 858993459)) + ((((a - ((a.toUInt32 >>> ((1 : Int32).toUInt32 &&& Int32.toUInt32 31)).toInt32 &&& 1431655765)) &&& 858993459) + (((a - ((a.toUInt32 >>> ((1 : Int32).toUInt32 &&& Int32.toUInt32 31)).toInt32 &&& 1431655765)).toUInt32 >>> ((2 : Int32).toUInt32 &&& Int32.toUInt32 31)).toInt32 &&& 858993459)).toUInt32 >>> ((4 : Int32).toUInt32 &&& Int32.toUInt32 31)).toInt32) &&& 252645135).toUInt32 >>> ((8 : Int32).toUInt32 &&& Int32.toUInt32 31)).toInt32) + (((((((a - ((a.toUInt32 >>> ((1 : Int32).toUInt32 &&& Int32.toUInt32 31)).toInt32 &&& 1431655765)) &&& 858993459) + (((a - ((a.toUInt32 >>> ((1 : Int32).toUInt32 &&& Int32.toUInt32 31)).toInt32 &&& 1431655765)).toUInt32 >>> ((2 : Int32).toUInt32 &&& Int32.toUInt32 31)).toInt32 &&& 858993459)) + ((((a - ((a.toUInt32 >>> ((1 : Int32).toUInt32 &&& Int32.toUInt32 31)).toInt32 &&& 1431655765)) &&& 858993459) + (((a - ((a.toUInt32 >>> ((1 : Int32).toUInt32 &&& Int32.toUInt32 31)).toInt32 &&& 1431655765)).toUInt32 >>> ((2 : Int32).toUInt32 &&& Int32.toUInt32 31)).toInt32 &&& 858993459)).toUInt32 >>> ((4 : Int32).toUInt32 &&& Int32.toUInt32 31)).toInt32) &&& 252645135) + ((((((a - ((a.toUInt32 >>> ((1 : Int32).toUInt32 &&& Int32.toUInt32 31)).toInt32 &&& 1431655765)) &&& 858993459) + (((a - ((a.toUInt32 >>> ((1 : Int32).toUInt32 &&& Int32.toUInt32 31)).toInt32 &&& 1431655765)).toUInt32 >>> ((2 : Int32).toUInt32 &&& Int32.toUInt32 31)).toInt32 &&& 858993459)) + ((((a - ((a.toUInt32 >>> ((1 : Int32).toUInt32 &&& Int32.toUInt32 31)).toInt32 &&& 1431655765)) &&& 858993459) + (((a - ((a.toUInt32 >>> ((1 : Int32).toUInt32 &&& Int32.toUInt32 31)).toInt32 &&& 1431655765)).toUInt32 >>> ((2 : Int32).toUInt32 &&& Int32.toUInt32 31)).toInt32 &&& 858993459)).toUInt32 >>> ((4 : Int32).toUInt32 &&& Int32.toUInt32 31)).toInt32) &&& 252645135).toUInt32 >>> ((8 : Int32).toUInt32 &&& Int32.toUInt32 31)).toInt32).toUInt32 >>> ((16 : Int32).toUInt32 &&& Int32.toUInt32 31)).toInt32) &&& 63)) ≤ 63 := and_z (by decide)
  exact hq _ trivial


set_option maxRecDepth 100000 in
theorem s_J13_bitCount_95d88 (a : Int64) {Q : Int32 → Prop} (hq : ∀ (r : Int32), True → Q r) : wp_J13_bitCount_95d88 a Q := by
  unfold wp_J13_bitCount_95d88
  have t1 : 0 ≤ (Int32.toInt (((((((((a - ((a.toUInt64 >>> ((1 : Int32).toInt64.toUInt64 &&& Int64.toUInt64 63)).toInt64 &&& 6148914691236517205)) &&& 3689348814741910323) + (((a - ((a.toUInt64 >>> ((1 : Int32).toInt64.toUInt64 &&& Int64.toUInt64 63)).toInt64 &&& 6148914691236517205)).toUInt64 >>> ((2 : Int32).toInt64.toUInt64 &&& Int64.toUInt64 63)).toInt64 &&& 3689348814741910323)) + ((((a - ((a.toUInt64 >>> ((1 : Int32).toInt64.toUInt64 &&& Int64.toUInt64 63)).toInt64 &&& 6148914691236517205)) &&& 3689348814741910323) + (((a - ((a.toUInt64 >>> ((1 : Int32).toInt64.toUInt64 &&& Int64.toUInt64 63)).toInt64 &&& 6148914691236517205)).toUInt64 >>> ((2 : Int32).toInt64.toUInt64 &&& Int64.toUInt64 63)).toInt64 &&& 3689348814741910323)).toUInt64 >>> ((4 : Int32).toInt64.toUInt64 &&& Int64.toUInt64 63)).toInt64) &&& 1085102592571150095) + ((((((a - ((a.toUInt64 >>> ((1 : Int32).toInt64.toUInt64 &&& Int64.toUInt64 63)).toInt64 &&& 6148914691236517205)) &&& 3689348814741910323) + (((a - ((a.toUInt64 >>> ((1 : Int32).toInt64.toUInt64 &&& Int64.toUInt64 63)).toInt64 &&& 6148914691236517205)).toUInt64 >>> ((2 : Int32).toInt64.toUInt64 &&& Int64.toUInt64 63)).toInt64 &&& 3689348814741910323)) + ((((a - ((a.toUInt64 >>> ((1 : Int32).toInt64.toUInt64 &&& Int64.toUInt64 63)).toInt64 &&& 6148914691236517205)) &&& 3689348814741910323) + (((a - ((a.toUInt64 >>> ((1 : Int32).toInt64.toUInt64 &&& Int64.toUInt64 63)).toInt64 &&& 6148914691236517205)).toUInt64 >>> ((2 : Int32).toInt64.toUInt64 &&& Int64.toUInt64 63)).toInt64 &&& 3689348814741910323)).toUInt64 >>> ((4 : Int32).toInt64.toUInt64 &&& Int64.toUInt64 63)).toInt64) &&& 1085102592571150095).toUInt64 >>> ((8 : Int32).toInt64.toUInt64 &&& Int64.toUInt64 63)).toInt64) + (((((((a - ((a.toUInt64 >>> ((1 : Int32).toInt64.toUInt64 &&& Int64.toUInt64 63)).toInt64 &&& 6148914691236517205)) &&& 3689348814741910323) + (((a - ((a.toUInt64 >>> ((1 : Int32).toInt64.toUInt64 &&& Int64.toUInt64 63)).toInt64 &&& 6148914691236517205)).toUInt64 >>> ((2 : Int32).toInt64.toUInt64 &&& Int64.toUInt64 63)).toInt64 &&& 3689348814741910323)) + ((((a - ((a.toUInt64 >>> ((1 : Int32).toInt64.toUInt64 &&& Int64.toUInt64 63)).toInt64 &&& 6148914691236517205)) &&& 3689348814741910323) + (((a - ((a.toUInt64 >>> ((1 : Int32).toInt64.toUInt64 &&& Int64.toUInt64 63)).toInt64 &&& 6148914691236517205)).toUInt64 >>> ((2 : Int32).toInt64.toUInt64 &&& Int64.toUInt64 63)).toInt64 &&& 3689348814741910323)).toUInt64 >>> ((4 : Int32).toInt64.toUInt64 &&& Int64.toUInt64 63)).toInt64) &&& 1085102592571150095) + ((((((a - ((a.toUInt64 >>> ((1 : Int32).toInt64.toUInt64 &&& Int64.toUInt64 63)).toInt64 &&& 6148914691236517205)) &&& 3689348814741910323) + (((a - ((a.toUInt64 >>> ((1 : Int32).toInt64.toUInt64 &&& Int64.toUInt64 63)).toInt64 &&& 6148914691236517205)).toUInt64 >>> ((2 : Int32).toInt64.toUInt64 &&& Int64.toUInt64 63)).toInt64 &&& 3689348814741910323)) + ((((a - ((a.toUInt64 >>> ((1 : Int32).toInt64.toUInt64 &&& Int64.toUInt64 63)).toInt64 &&& 6148914691236517205)) &&& 3689348814741910323) + (((a - ((a.toUInt64 >>> ((1 : Int32).toInt64.toUInt64 &&& Int64.toUInt64 63)).toInt64 &&& 6148914691236517205)).toUInt64 >>> ((2 : Int32).toInt64.toUInt64 &&& Int64.toUInt64 63)).toInt64 &&& 3689348814741910323)).toUInt64 >>> ((4 : Int32).toInt64.toUInt64 &&& Int64.toUInt64 63)).toInt64) &&& 1085102592571150095).toUInt64 >>> ((8 : Int32).toInt64.toUInt64 &&& Int64.toUInt64 63)).toInt64).toUInt64 >>> ((16 : Int32).toInt64.toUInt64 &&& Int64.toUInt64 63)).toInt64) + ((((((((a - ((a.toUInt64 >>> ((1 : Int32).toInt64.toUInt64 &&& Int64.toUInt64 63)).toInt64 &&& 6148914691236517205)) &&& 3689348814741910323) + (((a - ((a.toUInt64 >>> ((1 : Int32).toInt64.toUInt64 &&& Int64.toUInt64 63)).toInt64 &&& 6148914691236517205)).toUInt64 >>> ((2 : Int32).toInt64.toUInt64 &&& Int64.toUInt64 63)).toInt64 &&& 3689348814741910323)) + ((((a - ((a.toUInt64 >>> ((1 : Int32).toInt64.toUInt64 &&& Int64.toUInt64 63)).toInt64 &&& 6148914691236517205)) &&& 3689348814741910323) + (((a - ((a.toUInt64 >>> ((1 : Int32).toInt64.toUInt64 &&& Int64.toUInt64 63)).toInt64 &&& 6148914691236517205)).toUInt64 >>> ((2 : Int32).toInt64.toUInt64 &&& Int64.toUInt64 63)).toInt64 &&& 3689348814741910323)).toUInt64 >>> ((4 : Int32).toInt64.toUInt64 &&& Int64.toUInt64 63)).toInt64) &&& 1085102592571150095) + ((((((a - ((a.toUInt64 >>> ((1 : Int32).toInt64.toUInt64 &&& Int64.toUInt64 63)).toInt64 &&& 6148914691236517205)) &&& 3689348814741910323) + (((a - ((a.toUInt64 >>> ((1 : Int32).toInt64.toUInt64 &&& Int64.toUInt64 63)).toInt64 &&& 6148914691236517205)).toUInt64 >>> ((2 : Int32).toInt64.toUInt64 &&& Int64.toUInt64 63)).toInt64 &&& 3689348814741910323)) + ((((a - ((a.toUInt64 >>> ((1 : Int32).toInt64.toUInt64 &&& Int64.toUInt64 63)).toInt64 &&& 6148914691236517205)) &&& 3689348814741910323) + (((a - ((a.toUInt64 >>> ((1 : Int32).toInt64.toUInt64 &&& Int64.toUInt64 63)).toInt64 &&& 6148914691236517205)).toUInt64 >>> ((2 : Int32).toInt64.toUInt64 &&& Int64.toUInt64 63)).toInt64 &&& 3689348814741910323)).toUInt64 >>> ((4 : Int32).toInt64.toUInt64 &&& Int64.toUInt64 63)).toInt64) &&& 1085102592571150095).toUInt64 >>> ((8 : Int32).toInt64.toUInt64 &&& Int64.toUInt64 63)).toInt64) + (((((((a - ((a.toUInt64 >>> ((1 : Int32).toInt64.toUInt64 &&& Int64.toUInt64 63)).toInt64 &&& 6148914691236517205)) &&& 3689348814741910323) + (((a - ((a.toUInt64 >>> ((1 : Int32).toInt64.toUInt64 &&& Int64.toUInt64 63)).toInt64 &&& 6148914691236517205)).toUInt64 >>> ((2 : Int32).toInt64.toUInt64 &&& Int64.toUInt64 63)).toInt64 &&& 3689348814741910323)) + ((((a - ((a.toUInt64 >>> ((1 : Int32).toInt64.toUInt64 &&& Int64.toUInt64 63)).toInt64 &&& 6148914691236517205)) &&& 3689348814741910323) + (((a - ((a.toUInt64 >>> ((1 : Int32).toInt64.toUInt64 &&& Int64.toUInt64 63)).toInt64 &&& 6148914691236517205)).toUInt64 >>> ((2 : Int32).toInt64.toUInt64 &&& Int64.toUInt64 63)).toInt64 &&& 3689348814741910323)).toUInt64 >>> ((4 : Int32).toInt64.toUInt64 &&& Int64.toUInt64 63)).toInt64) &&& 1085102592571150095) + ((((((a - ((a.toUInt64 >>> ((1 : Int32).toInt64.toUInt64 &&& Int64.toUInt64 63)).toInt64 &&& 6148914691236517205)) &&& 3689348814741910323) + (((a - ((a.toUInt64 >>> ((1 : Int32).toInt64.toUInt64 &&& Int64.toUInt64 63)).toInt64 &&& 6148914691236517205)).toUInt64 >>> ((2 : Int32).toInt64.toUInt64 &&& Int64.toUInt64 63)).toInt64 &&& 3689348814741910323)) + ((((a - ((a.toUInt64 >>> ((1 : Int32).toInt64.toUInt64 &&& Int64.toUInt64 63)).toInt64 &&& 6148914691236517205)) &&& 3689348814741910323) + (((a - ((a.toUInt64 >>> ((1 : Int32).toInt64.toUInt64 &&& Int64.toUInt64 63)).toInt64 &&& 6148914691236517205)).toUInt64 >>> ((2 : Int32).toInt64.toUInt64 &&& Int64.toUInt64 63)).toInt64 &&& 3689348814741910323)).toUInt64 >>> ((4 : Int32).toInt64.toUInt64 &&& Int64.toUInt64 63)).toInt64) &&& 1085102592571150095).toUInt64 >>> ((8 : Int32).toInt64.toUInt64 &&& Int64.toUInt64 63)).toInt64).toUInt64 >>> ((16 : Int32).toInt64.toUInt64 &&& Int64.toUInt64 63)).toInt64).toUInt64 >>> ((32 : Int32).toInt64.toUInt64 &&& Int64.toUInt64 63)).toInt64).toInt32 &&& 127)) ∧ (Int32.toInt (((((((((a - ((a.toUInt64 >>> ((1 : Int32).toInt64.toUInt64 &&& Int64.toUInt64 63)).toInt64 &&& 6148914691236517205)) &&& 3689348814741910323) + (((a - ((a.toUInt64 >>> ((1 : Int32).toInt64.toUInt64 &&& Int64.toUInt64 63)).toInt64 &&& 6148914691236517205)).toUInt64 >>> ((2 : Int32).toInt64.toUInt64 &&& Int64.toUInt64 63)).toInt64 &&& 3689348814741910323)) + ((((a - ((a.toUInt64 >>> ((1 : Int32).toInt64.toUInt64 &&& Int64.toUInt64 63)).toInt64 &&& 6148914691236517205)) &&& 3689348814741910323) + (((a - ((a.toUInt64 >>> ((1 : Int32).toInt64.toUInt64 &&& Int64.toUInt64 63)).toInt64 &&& 6148914691236517205)).toUInt64 >>> ((2 : Int32).toInt64.toUInt64 &&& Int64.toUInt64 63)).toInt64 &&& 3689348814741910323)).toUInt64 >>> ((4 : Int32).toInt64.toUInt64 &&& Int64.toUInt64 63)).toInt64) &&& 1085102592571150095) + ((((((a - ((a.toUInt64 >>> ((1 : Int32).toInt64.toUInt64 &&& Int64.toUInt64 63)).toInt64 &&& 6148914691236517205)) &&& 3689348814741910323) + (((a - ((a.toUInt64 >>> ((1 : Int32).toInt64.toUInt64 &&& Int64.toUInt64 63)).toInt64 &&& 6148914691236517205)).toUInt64 >>> ((2 : Int32).toInt64.toUInt64 &&& Int64.toUInt64 63)).toInt64 &&& 3689348814741910323)) + ((((a - ((a.toUInt64 >>> ((1 : Int32).toInt64.toUInt64 &&& Int64.toUInt64 63)).toInt64 &&& 6148914691236517205)) &&& 3689348814741910323) + (((a - ((a.toUInt64 >>> ((1 : Int32).toInt64.toUInt64 &&& Int64.toUInt64 63)).toInt64 &&& 6148914691236517205)).toUInt64 >>> ((2 : Int32).toInt64.toUInt64 &&& Int64.toUInt64 63)).toInt64 &&& 3689348814741910323)).toUInt64 >>> ((4 : Int32).toInt64.toUInt64 &&& Int64.toUInt64 63)).toInt64) &&& 1085102592571150095).toUInt64 >>> ((8 : Int32).toInt64.toUInt64 &&& Int64.toUInt64 63)).toInt64) + (((((((a - ((a.toUInt64 >>> ((1 : Int32).toInt64.toUInt64 &&& Int64.toUInt64 63)).toInt64 &&& 6148914691236517205)) &&& 3689348814741910323) + (((a - ((a.toUInt64 >>> ((1 : Int32).toInt64.toUInt64 &&& Int64.toUInt64 63)).toInt64 &&& 6148914691236517205)).toUInt64 >>> ((2 : Int32).toInt64.toUInt64 &&& Int64.toUInt64 63)).toInt64 &&& 3689348814741910323)) + ((((a - ((a.toUInt64 >>> ((1 : Int32).toInt64.toUInt64 &&& Int64.toUInt64 63)).toInt64 &&& 6148914691236517205)) &&& 3689348814741910323) + (((a - ((a.toUInt64 >>> ((1 : Int32).toInt64.toUInt64 &&& Int64.toUInt64 63)).toInt64 &&& 6148914691236517205)).toUInt64 >>> ((2 : Int32).toInt64.toUInt64 &&& Int64.toUInt64 63)).toInt64 &&& 3689348814741910323)).toUInt64 >>> ((4 : Int32).toInt64.toUInt64 &&& Int64.toUInt64 63)).toInt64) &&& 1085102592571150095) + ((((((a - ((a.toUInt64 >>> ((1 : Int32).toInt64.toUInt64 &&& Int64.toUInt64 63)).toInt64 &&& 6148914691236517205)) &&& 3689348814741910323) + (((a - ((a.toUInt64 >>> ((1 : Int32).toInt64.toUInt64 &&& Int64.toUInt64 63)).toInt64 &&& 6148914691236517205)).toUInt64 >>> ((2 : Int32).toInt64.toUInt64 &&& Int64.toUInt64 63)).toInt64 &&& 3689348814741910323)) + ((((a - ((a.toUInt64 >>> ((1 : Int32).toInt64.toUInt64 &&& Int64.toUInt64 63)).toInt64 &&& 6148914691236517205)) &&& 3689348814741910323) + (((a - ((a.toUInt64 >>> ((1 : Int32).toInt64.toUInt64 &&& Int64.toUInt64 63)).toInt64 &&& 6148914691236517205)).toUInt64 >>> ((2 : Int32).toInt64.toUInt64 &&& Int64.toUInt64 63)).toInt64 &&& 3689348814741910323)).toUInt64 >>> ((4 : Int32).toInt64.toUInt64 &&& Int64.toUInt64 63)).toInt64) &&& 1085102592571150095).toUInt64 >>> ((8 : Int32).toInt64.toUInt64 &&& Int64.toUInt64 63)).toInt64).toUInt64 >>> ((16 : Int32).toInt64.toUInt64 &&& Int64.toUInt64 63)).toInt64) + ((((((((a - ((a.toUInt64 >>> ((1 : Int32).toInt64.toUInt64 &&& Int64.toUInt64 63)).toInt64 &&& 6148914691236517205)) &&& 3689348814741910323) + (((a - ((a.toUInt64 >>> ((1 : Int32).toInt64.toUInt64 &&& Int64.toUInt64 63)).toInt64 &&& 6148914691236517205)).toUInt64 >>> ((2 : Int32).toInt64.toUInt64 &&& Int64.toUInt64 63)).toInt64 &&& 3689348814741910323)) + ((((a - ((a.toUInt64 >>> ((1 : Int32).toInt64.toUInt64 &&& Int64.toUInt64 63)).toInt64 &&& 6148914691236517205)) &&& 3689348814741910323) + (((a - ((a.toUInt64 >>> ((1 : Int32).toInt64.toUInt64 &&& Int64.toUInt64 63)).toInt64 &&& 6148914691236517205)).toUInt64 >>> ((2 : Int32).toInt64.toUInt64 &&& Int64.toUInt64 63)).toInt64 &&& 3689348814741910323)).toUInt64 >>> ((4 : Int32).toInt64.toUInt64 &&& Int64.toUInt64 63)).toInt64) &&& 1085102592571150095) + ((((((a - ((a.toUInt64 >>> ((1 : Int32).toInt64.toUInt64 &&& Int64.toUInt64 63)).toInt64 &&& 6148914691236517205)) &&& 3689348814741910323) + (((a - ((a.toUInt64 >>> ((1 : Int32).toInt64.toUInt64 &&& Int64.toUInt64 63)).toInt64 &&& 6148914691236517205)).toUInt64 >>> ((2 : Int32).toInt64.toUInt64 &&& Int64.toUInt64 63)).toInt64 &&& 3689348814741910323)) + ((((a - ((a.toUInt64 >>> ((1 : Int32).toInt64.toUInt64 &&& Int64.toUInt64 63)).toInt64 &&& 6148914691236517205)) &&& 3689348814741910323) + (((a - ((a.toUInt64 >>> ((1 : Int32).toInt64.toUInt64 &&& Int64.toUInt64 63)).toInt64 &&& 6148914691236517205)).toUInt64 >>> ((2 : Int32).toInt64.toUInt64 &&& Int64.toUInt64 63)).toInt64 &&& 3689348814741910323)).toUInt64 >>> ((4 : Int32).toInt64.toUInt64 &&& Int64.toUInt64 63)).toInt64) &&& 1085102592571150095).toUInt64 >>> ((8 : Int32).toInt64.toUInt64 &&& Int64.toUInt64 63)).toInt64) + (((((((a - ((a.toUInt64 >>> ((1 : Int32).toInt64.toUInt64 &&& Int64.toUInt64 63)).toInt64 &&& 6148914691236517205)) &&& 3689348814741910323) + (((a - ((a.toUInt64 >>> ((1 : Int32).toInt64.toUInt64 &&& Int64.toUInt64 63)).toInt64 &&& 6148914691236517205)).toUInt64 >>> ((2 : Int32).toInt64.toUInt64 &&& Int64.toUInt64 63)).toInt64 &&& 3689348814741910323)) + ((((a - ((a.toUInt64 >>> ((1 : Int32).toInt64.toUInt64 &&& Int64.toUInt64 63)).toInt64 &&& 6148914691236517205)) &&& 3689348814741910323) + (((a - ((a.toUInt64 >>> ((1 : Int32).toInt64.toUInt64 &&& Int64.toUInt64 63)).toInt64 &&& 6148914691236517205)).toUInt64 >>> ((2 : Int32).toInt64.toUInt64 &&& Int64.toUInt64 63)).toInt64 &&& 3689348814741910323)).toUInt64 >>> ((4 : Int32).toInt64.toUInt64 &&& Int64.toUInt64 63)).toInt64) &&& 1085102592571150095) + ((((((a - ((a.toUInt64 >>> ((1 : Int32).toInt64.toUInt64 &&& Int64.toUInt64 63)).toInt64 &&& 6148914691236517205)) &&& 3689348814741910323) + (((a - ((a.toUInt64 >>> ((1 : Int32).toInt64.toUInt64 &&& Int64.toUInt64 63)).toInt64 &&& 6148914691236517205)).toUInt64 >>> ((2 : Int32).toInt64.toUInt64 &&& Int64.toUInt64 63)).toInt64 &&& 3689348814741910323)) + ((((a - ((a.toUInt64 >>> ((1 : Int32).toInt64.toUInt64 &&& Int64.toUInt64 63)).toInt64 &&& 6148914691236517205)) &&& 3689348814741910323) + (((a - ((a.toUInt64 >>> ((1 : Int32).toInt64.toUInt64 &&& Int64.toUInt64 63)).toInt64 &&& 6148914691236517205)).toUInt64 >>> ((2 : Int32).toInt64.toUInt64 &&& Int64.toUInt64 63)).toInt64 &&& 3689348814741910323)).toUInt64 >>> ((4 : Int32).toInt64.toUInt64 &&& Int64.toUInt64 63)).toInt64) &&& 1085102592571150095).toUInt64 >>> ((8 : Int32).toInt64.toUInt64 &&& Int64.toUInt64 63)).toInt64).toUInt64 >>> ((16 : Int32).toInt64.toUInt64 &&& Int64.toUInt64 63)).toInt64).toUInt64 >>> ((32 : Int32).toInt64.toUInt64 &&& Int64.toUInt64 63)).toInt64).toInt32 &&& 127)) ≤ 127 := and_z (by decide)
  exact hq _ trivial


set_option maxRecDepth 100000 in
theorem s_X1_add (a : Int32) (h0_count : Int32) (h0cf : Nat → Int32) (h0bf : Nat → Int32) (h_a : 0 ≤ a.toInt ∧ a.toInt ≤ 39) (h_h0_count : 0 ≤ h0_count.toInt ∧ h0_count.toInt ≤ 6) (h_h0cf : CE h0cf) (h_h0bf : BU h0bf) {Q : (Int32 × (Nat → Int32) × (Nat → Int32)) → Prop} (hq : ∀ (u_0 : Int32) (u_1 : Nat → Int32) (u_2 : Nat → Int32), (0 ≤ u_0.toInt ∧ u_0.toInt ≤ 6) ∧ (CE u_1) ∧ (BU u_2) → Q (u_0, u_1, u_2)) : wp_X1_add a h0_count h0cf h0bf Q := by
  unfold wp_X1_add
  by_cases c1 : 6 ≤ h0_count
  · refine br1 c1 ?_
    have d2 := le_z (x := 6) (y := (Int32.toInt h0_count)) rfl rfl c1
    exact hq _ _ _ ⟨⟨by omega, by omega⟩, h_h0cf, h_h0bf⟩
  · refine br0 c1 ?_
    have d3 := nle_z (x := 6) (y := (Int32.toInt h0_count)) rfl rfl c1
    refine ⟨vpi (x := (Int32.toInt h0_count)) rfl (by omega) (by omega), ?_⟩
    refine ⟨vpi (x := (Int32.toInt h0_count)) rfl (by omega) (by omega), ?_⟩
    have t4 : (Int32.toInt (h0_count + 1)) = (Int32.toInt h0_count) + 1 := add_z rfl rfl (by omega) (by omega)
    have R5 : CE (upd h0cf h0_count.toNatClampNeg a) := CE.up_0 h_h0cf (tnz (x := (Int32.toInt h0_count)) rfl (by omega)) (by omega) (by omega) (w := (Int32.toInt a)) rfl (by omega) (by omega)
    have R6 : BU (upd h0bf h0_count.toNatClampNeg 0) := BU.up_0 h_h0bf (tnz (x := (Int32.toInt h0_count)) rfl (by omega)) (by omega) (by omega) (w := 0) rfl (by omega) (by omega)
    exact hq _ _ _ ⟨⟨by omega, by omega⟩, R5, R6⟩


set_option maxRecDepth 100000 in
theorem s_X4_addListener (a : Int32) (b : Int32) (h0_listeners : Int32) (h0colunf : Nat → Int32) (h0earrf : Nat → Int32) (h_a : 0 ≤ a.toInt ∧ a.toInt ≤ 7) (h_b : 0 ≤ b.toInt ∧ b.toInt ≤ 20) (h_h0_listeners : 0 ≤ h0_listeners.toInt ∧ h0_listeners.toInt ≤ 5) (h_h0colunf : CO h0colunf) (h_h0earrf : EA h0earrf) {Q : (Int32 × (Nat → Int32) × (Nat → Int32)) → Prop} (hq : ∀ (u_0 : Int32) (u_1 : Nat → Int32) (u_2 : Nat → Int32), (0 ≤ u_0.toInt ∧ u_0.toInt ≤ 5) ∧ (CO u_1) ∧ (EA u_2) → Q (u_0, u_1, u_2)) : wp_X4_addListener a b h0_listeners h0colunf h0earrf Q := by
  unfold wp_X4_addListener
  by_cases c1 : 5 ≤ h0_listeners
  · refine br1 c1 ?_
    have d2 := le_z (x := 5) (y := (Int32.toInt h0_listeners)) rfl rfl c1
    exact hq _ _ _ ⟨⟨by omega, by omega⟩, h_h0colunf, h_h0earrf⟩
  · refine br0 c1 ?_
    have d3 := nle_z (x := 5) (y := (Int32.toInt h0_listeners)) rfl rfl c1
    refine ⟨vpi (x := (Int32.toInt h0_listeners)) rfl (by omega) (by omega), ?_⟩
    refine ⟨vpi (x := (Int32.toInt h0_listeners)) rfl (by omega) (by omega), ?_⟩
    have t4 : (Int32.toInt (h0_listeners + 1)) = (Int32.toInt h0_listeners) + 1 := add_z rfl rfl (by omega) (by omega)
    have R5 : CO (upd h0colunf h0_listeners.toNatClampNeg a) := CO.up_0 h_h0colunf (tnz (x := (Int32.toInt h0_listeners)) rfl (by omega)) (by omega) (by omega) (w := (Int32.toInt a)) rfl (by omega) (by omega)
    have R6 : EA (upd h0earrf h0_listeners.toNatClampNeg b) := EA.up_0 h_h0earrf (tnz (x := (Int32.toInt h0_listeners)) rfl (by omega)) (by omega) (by omega) (w := (Int32.toInt b)) rfl (by omega) (by omega)
    exact hq _ _ _ ⟨⟨by omega, by omega⟩, R5, R6⟩


set_option maxRecDepth 100000 in
theorem s_X4_addNoise (a : Int32) (b : Int32) (h0_noises : Int32) (h0noisnf : Nat → Int32) (h0noisdf : Nat → Int32) (h_a : 0 ≤ a.toInt ∧ a.toInt ≤ 7) (h_b : 0 ≤ b.toInt ∧ b.toInt ≤ 20) (h_h0_noises : 0 ≤ h0_noises.toInt ∧ h0_noises.toInt ≤ 6) (h_h0noisnf : NC h0noisnf) (h_h0noisdf : NL h0noisdf) {Q : (Int32 × (Nat → Int32) × (Nat → Int32)) → Prop} (hq : ∀ (u_0 : Int32) (u_1 : Nat → Int32) (u_2 : Nat → Int32), (0 ≤ u_0.toInt ∧ u_0.toInt ≤ 6) ∧ (NC u_1) ∧ (NL u_2) → Q (u_0, u_1, u_2)) : wp_X4_addNoise a b h0_noises h0noisnf h0noisdf Q := by
  unfold wp_X4_addNoise
  by_cases c1 : 6 ≤ h0_noises
  · refine br1 c1 ?_
    have d2 := le_z (x := 6) (y := (Int32.toInt h0_noises)) rfl rfl c1
    exact hq _ _ _ ⟨⟨by omega, by omega⟩, h_h0noisnf, h_h0noisdf⟩
  · refine br0 c1 ?_
    have d3 := nle_z (x := 6) (y := (Int32.toInt h0_noises)) rfl rfl c1
    refine ⟨vpi (x := (Int32.toInt h0_noises)) rfl (by omega) (by omega), ?_⟩
    refine ⟨vpi (x := (Int32.toInt h0_noises)) rfl (by omega) (by omega), ?_⟩
    have t4 : (Int32.toInt (h0_noises + 1)) = (Int32.toInt h0_noises) + 1 := add_z rfl rfl (by omega) (by omega)
    have R5 : NC (upd h0noisnf h0_noises.toNatClampNeg a) := NC.up_0 h_h0noisnf (tnz (x := (Int32.toInt h0_noises)) rfl (by omega)) (by omega) (by omega) (w := (Int32.toInt a)) rfl (by omega) (by omega)
    have R6 : NL (upd h0noisdf h0_noises.toNatClampNeg b) := NL.up_0 h_h0noisdf (tnz (x := (Int32.toInt h0_noises)) rfl (by omega)) (by omega) (by omega) (w := (Int32.toInt b)) rfl (by omega) (by omega)
    exact hq _ _ _ ⟨⟨by omega, by omega⟩, R5, R6⟩


set_option maxRecDepth 100000 in
theorem s_X4_addHearsay (a : Int32) (b : Int32) (h0_hearsay : Int32) (h0hearnf : Nat → Int32) (h0heardf : Nat → Int32) (h_a : 0 ≤ a.toInt ∧ a.toInt ≤ 7) (h_b : 0 ≤ b.toInt ∧ b.toInt ≤ 99) (h_h0_hearsay : 0 ≤ h0_hearsay.toInt ∧ h0_hearsay.toInt ≤ 8) (h_h0hearnf : HC h0hearnf) (h_h0heardf : HL h0heardf) {Q : (Int32 × (Nat → Int32) × (Nat → Int32)) → Prop} (hq : ∀ (u_0 : Int32) (u_1 : Nat → Int32) (u_2 : Nat → Int32), (0 ≤ u_0.toInt ∧ u_0.toInt ≤ 8) ∧ (HC u_1) ∧ (HL u_2) → Q (u_0, u_1, u_2)) : wp_X4_addHearsay a b h0_hearsay h0hearnf h0heardf Q := by
  unfold wp_X4_addHearsay
  by_cases c1 : 8 ≤ h0_hearsay
  · refine br1 c1 ?_
    have d2 := le_z (x := 8) (y := (Int32.toInt h0_hearsay)) rfl rfl c1
    exact hq _ _ _ ⟨⟨by omega, by omega⟩, h_h0hearnf, h_h0heardf⟩
  · refine br0 c1 ?_
    have d3 := nle_z (x := 8) (y := (Int32.toInt h0_hearsay)) rfl rfl c1
    refine ⟨vpi (x := (Int32.toInt h0_hearsay)) rfl (by omega) (by omega), ?_⟩
    refine ⟨vpi (x := (Int32.toInt h0_hearsay)) rfl (by omega) (by omega), ?_⟩
    have t4 : (Int32.toInt (h0_hearsay + 1)) = (Int32.toInt h0_hearsay) + 1 := add_z rfl rfl (by omega) (by omega)
    have R5 : HC (upd h0hearnf h0_hearsay.toNatClampNeg a) := HC.up_0 h_h0hearnf (tnz (x := (Int32.toInt h0_hearsay)) rfl (by omega)) (by omega) (by omega) (w := (Int32.toInt a)) rfl (by omega) (by omega)
    have R6 : HL (upd h0heardf h0_hearsay.toNatClampNeg b) := HL.up_0 h_h0heardf (tnz (x := (Int32.toInt h0_hearsay)) rfl (by omega)) (by omega) (by omega) (w := (Int32.toInt b)) rfl (by omega) (by omega)
    exact hq _ _ _ ⟨⟨by omega, by omega⟩, R5, R6⟩


set_option maxRecDepth 100000 in
theorem s_X4_addWell (a : Int32) (b : Int32) (h0_wells : Int32) (h0sounsf : Nat → Int32) (h0wettf : Nat → Int32) (h_h0_wells : 0 ≤ h0_wells.toInt ∧ h0_wells.toInt ≤ 10) {Q : (Int32 × (Nat → Int32) × (Nat → Int32)) → Prop} (hq : ∀ (u_0 : Int32) (u_1 : Nat → Int32) (u_2 : Nat → Int32), (0 ≤ u_0.toInt ∧ u_0.toInt ≤ 10) → Q (u_0, u_1, u_2)) : wp_X4_addWell a b h0_wells h0sounsf h0wettf Q := by
  unfold wp_X4_addWell
  by_cases c1 : 10 ≤ h0_wells
  · refine br1 c1 ?_
    have d2 := le_z (x := 10) (y := (Int32.toInt h0_wells)) rfl rfl c1
    exact hq _ _ _ ⟨by omega, by omega⟩
  · refine br0 c1 ?_
    have d3 := nle_z (x := 10) (y := (Int32.toInt h0_wells)) rfl rfl c1
    refine ⟨vpi (x := (Int32.toInt h0_wells)) rfl (by omega) (by omega), ?_⟩
    refine ⟨vpi (x := (Int32.toInt h0_wells)) rfl (by omega) (by omega), ?_⟩
    have t4 : (Int32.toInt (h0_wells + 1)) = (Int32.toInt h0_wells) + 1 := add_z rfl rfl (by omega) (by omega)
    exact hq _ _ _ ⟨by omega, by omega⟩


set_option maxRecDepth 100000 in
theorem s_X11_put (a : Int32) (b : Int32) (d : Int32) (rfs : Nat → Int32) (aR_dug : Int64) (aRkf : Nat → Int32) (aRhf : Nat → Int32) (aRwf : Nat → Int32) (aD_kept : Int32) (h_aRkf : KI aRkf) (h_aRhf : HA aRhf) (h_aRwf : WA aRwf) (h_aD_kept : 0 ≤ aD_kept.toInt ∧ aD_kept.toInt ≤ 16) {Q : Int32 → (Int32 × (Nat → Int32) × (Nat → Int32) × (Nat → Int32) × (Nat → Int32) × Int32) → Prop} (hq : ∀ (r : Int32) (u_0 : Int32) (u_1 : Nat → Int32) (u_2 : Nat → Int32) (u_3 : Nat → Int32) (u_4 : Nat → Int32) (u_5 : Int32), (KI u_2) ∧ (HA u_3) ∧ (WA u_4) ∧ (0 ≤ u_5.toInt ∧ u_5.toInt ≤ 16) → Q r (u_0, u_1, u_2, u_3, u_4, u_5)) : wp_X11_put a b d rfs aR_dug aRkf aRhf aRwf aD_kept Q := by
  unfold wp_X11_put
  refine o_X11_isWithin _ _ _ ?_
  by_cases c1 : a < 0
  · refine br1 c1 ?_
    have d2 := lt_z (x := (Int32.toInt a)) (y := 0) rfl rfl c1
    refine br1 (by decide) ?_
    refine o_X11_settle _ _ _ ?_
    refine jn_s ?_
    refine br0 (by decide) ?_
    refine br0 (by decide) ?_
    refine br0 (by decide) ?_
    refine ⟨by unfold vp_in; decide, ?_⟩
    refine ⟨by unfold vp_in; decide, ?_⟩
    refine un2_i ?_
    exact hq _ _ _ _ _ _ _ ⟨h_aRkf, h_aRhf, h_aRwf, ⟨by omega, by omega⟩⟩
  · refine br0 c1 ?_
    have d3 := nlt_z (x := (Int32.toInt a)) (y := 0) rfl rfl c1
    by_cases c4 : 40 ≤ a
    · refine br1 c4 ?_
      have d5 := le_z (x := 40) (y := (Int32.toInt a)) rfl rfl c4
      refine br1 (by decide) ?_
      refine o_X11_settle _ _ _ ?_
      refine jn_s ?_
      refine br0 (by decide) ?_
      refine br0 (by decide) ?_
      refine br0 (by decide) ?_
      refine ⟨by unfold vp_in; decide, ?_⟩
      refine ⟨by unfold vp_in; decide, ?_⟩
      refine un2_i ?_
      exact hq _ _ _ _ _ _ _ ⟨h_aRkf, h_aRhf, h_aRwf, ⟨by omega, by omega⟩⟩
    · refine br0 c4 ?_
      have d6 := nle_z (x := 40) (y := (Int32.toInt a)) rfl rfl c4
      refine br0 (by decide) ?_
      refine o_X6_canBe _ _ _ ?_
      by_cases c7 : b = 0
      · refine br1 c7 ?_
        have d8 := eq_z (x := (Int32.toInt b)) (y := 0) rfl rfl c7
        by_cases c9 : d < 0
        · refine br1 c9 ?_
          have d10 := lt_z (x := (Int32.toInt d)) (y := 0) rfl rfl c9
          refine br1 (by decide) ?_
          refine o_X11_settle _ _ _ ?_
          refine jn_s ?_
          refine br0 (by decide) ?_
          refine br0 (by decide) ?_
          refine br0 (by decide) ?_
          refine ⟨by unfold vp_in; decide, ?_⟩
          refine ⟨by unfold vp_in; decide, ?_⟩
          refine un2_i ?_
          exact hq _ _ _ _ _ _ _ ⟨h_aRkf, h_aRhf, h_aRwf, ⟨by omega, by omega⟩⟩
        · refine br0 c9 ?_
          have d11 := nlt_z (x := (Int32.toInt d)) (y := 0) rfl rfl c9
          by_cases c12 : 3 < d
          · refine br1 c12 ?_
            have d13 := lt_z (x := 3) (y := (Int32.toInt d)) rfl rfl c12
            refine br1 (by decide) ?_
            refine o_X11_settle _ _ _ ?_
            refine jn_s ?_
            refine br0 (by decide) ?_
            refine br0 (by decide) ?_
            refine br0 (by decide) ?_
            refine ⟨by unfold vp_in; decide, ?_⟩
            refine ⟨by unfold vp_in; decide, ?_⟩
            refine un2_i ?_
            exact hq _ _ _ _ _ _ _ ⟨h_aRkf, h_aRhf, h_aRwf, ⟨by omega, by omega⟩⟩
          · refine br0 c12 ?_
            have d14 := nlt_z (x := 3) (y := (Int32.toInt d)) rfl rfl c12
            refine br0 (by decide) ?_
            refine jn_s ?_
            refine br1 (z_eq (x := (Int32.toInt b)) (y := 0) rfl rfl (by omega)) ?_
            refine o_X6_isDug _ _ _ ?_
            by_cases c15 : (lg_cmp ((aR_dug >>> (a.toInt64 &&& 63)) &&& 1) 0) = 0
            · refine br1 c15 ?_
              have d16 := c_eq (x := (Int64.toInt ((aR_dug >>> (a.toInt64 &&& 63)) &&& 1))) (y := 0) rfl rfl c15
              refine br1 (by decide) ?_
              refine br1 (z_eq (x := (Int32.toInt b)) (y := 0) rfl rfl (by omega)) ?_
              refine ⟨vpi (x := (Int32.toInt a)) rfl (by omega) (by omega), ?_⟩
              refine ⟨vpi (x := (Int32.toInt a)) rfl (by omega) (by omega), ?_⟩
              refine o_X2_clear _ ?_
              refine o_X11_settle _ _ _ ?_
              refine jn_s ?_
              have g17 : 0 ≤ (Int32.toInt (aRkf a.toNatClampNeg)) ∧ (Int32.toInt (aRkf a.toNatClampNeg)) ≤ 3 := KI.at_0 h_aRkf (tnz (x := (Int32.toInt a)) rfl (by omega)) (by omega) (by omega)
              refine br1 (z_le (x := 0) (y := (Int32.toInt (aRkf a.toNatClampNeg))) rfl rfl (by omega)) ?_
              refine br1 (z_le (x := 0) (y := (Int32.toInt (aRkf a.toNatClampNeg))) rfl rfl (by omega)) ?_
              refine un2_i ?_
              have R18 : KI (upd aRkf a.toNatClampNeg d) := KI.up_0 h_aRkf (tnz (x := (Int32.toInt a)) rfl (by omega)) (by omega) (by omega) (w := (Int32.toInt d)) rfl (by omega) (by omega)
              exact hq _ _ _ _ _ _ _ ⟨R18, h_aRhf, h_aRwf, (by decide)⟩
            · refine br0 c15 ?_
              have d19 := c_ne (x := (Int64.toInt ((aR_dug >>> (a.toInt64 &&& 63)) &&& 1))) (y := 0) rfl rfl c15
              refine br0 (by decide) ?_
              refine o_X11_settle _ _ _ ?_
              refine jn_s ?_
              refine br0 (by decide) ?_
              refine br0 (by decide) ?_
              refine br0 (by decide) ?_
              refine ⟨by unfold vp_in; decide, ?_⟩
              refine ⟨by unfold vp_in; decide, ?_⟩
              refine un2_i ?_
              exact hq _ _ _ _ _ _ _ ⟨h_aRkf, h_aRhf, h_aRwf, ⟨by omega, by omega⟩⟩
      · refine br0 c7 ?_
        have d20 := ne_z (x := (Int32.toInt b)) (y := 0) rfl rfl c7
        by_cases c21 : b = 1
        · refine br1 c21 ?_
          have d22 := eq_z (x := (Int32.toInt b)) (y := 1) rfl rfl c21
          by_cases c23 : d < 1
          · refine br1 c23 ?_
            have d24 := lt_z (x := (Int32.toInt d)) (y := 1) rfl rfl c23
            refine br1 (by decide) ?_
            refine o_X11_settle _ _ _ ?_
            refine jn_s ?_
            refine br0 (by decide) ?_
            refine br0 (by decide) ?_
            refine br0 (by decide) ?_
            refine ⟨by unfold vp_in; decide, ?_⟩
            refine ⟨by unfold vp_in; decide, ?_⟩
            refine un2_i ?_
            exact hq _ _ _ _ _ _ _ ⟨h_aRkf, h_aRhf, h_aRwf, ⟨by omega, by omega⟩⟩
          · refine br0 c23 ?_
            have d25 := nlt_z (x := (Int32.toInt d)) (y := 1) rfl rfl c23
            by_cases c26 : 9 < d
            · refine br1 c26 ?_
              have d27 := lt_z (x := 9) (y := (Int32.toInt d)) rfl rfl c26
              refine br1 (by decide) ?_
              refine o_X11_settle _ _ _ ?_
              refine jn_s ?_
              refine br0 (by decide) ?_
              refine br0 (by decide) ?_
              refine br0 (by decide) ?_
              refine ⟨by unfold vp_in; decide, ?_⟩
              refine ⟨by unfold vp_in; decide, ?_⟩
              refine un2_i ?_
              exact hq _ _ _ _ _ _ _ ⟨h_aRkf, h_aRhf, h_aRwf, ⟨by omega, by omega⟩⟩
            · refine br0 c26 ?_
              have d28 := nlt_z (x := 9) (y := (Int32.toInt d)) rfl rfl c26
              refine br0 (by decide) ?_
              refine jn_s ?_
              refine br0 (z_ne (x := (Int32.toInt b)) (y := 0) rfl rfl (by omega)) ?_
              refine br0 (z_ne (x := (Int32.toInt b)) (y := 0) rfl rfl (by omega)) ?_
              refine br1 (z_eq (x := (Int32.toInt b)) (y := 1) rfl rfl (by omega)) ?_
              refine ⟨vpi (x := (Int32.toInt a)) rfl (by omega) (by omega), ?_⟩
              refine ⟨vpi (x := (Int32.toInt a)) rfl (by omega) (by omega), ?_⟩
              refine o_X2_clear _ ?_
              refine o_X11_settle _ _ _ ?_
              refine jn_s ?_
              have g29 : 1 ≤ (Int32.toInt (aRhf a.toNatClampNeg)) ∧ (Int32.toInt (aRhf a.toNatClampNeg)) ≤ 9 := HA.at_0 h_aRhf (tnz (x := (Int32.toInt a)) rfl (by omega)) (by omega) (by omega)
              refine br1 (z_le (x := 0) (y := (Int32.toInt (aRhf a.toNatClampNeg))) rfl rfl (by omega)) ?_
              refine br1 (z_le (x := 0) (y := (Int32.toInt (aRhf a.toNatClampNeg))) rfl rfl (by omega)) ?_
              refine un2_i ?_
              have R30 : HA (upd aRhf a.toNatClampNeg d) := HA.up_0 h_aRhf (tnz (x := (Int32.toInt a)) rfl (by omega)) (by omega) (by omega) (w := (Int32.toInt d)) rfl (by omega) (by omega)
              exact hq _ _ _ _ _ _ _ ⟨h_aRkf, R30, h_aRwf, (by decide)⟩
        · refine br0 c21 ?_
          have d31 := ne_z (x := (Int32.toInt b)) (y := 1) rfl rfl c21
          by_cases c32 : b = 2
          · refine br1 c32 ?_
            have d33 := eq_z (x := (Int32.toInt b)) (y := 2) rfl rfl c32
            by_cases c34 : d < 0
            · refine br1 c34 ?_
              have d35 := lt_z (x := (Int32.toInt d)) (y := 0) rfl rfl c34
              refine br1 (by decide) ?_
              refine o_X11_settle _ _ _ ?_
              refine jn_s ?_
              refine br0 (by decide) ?_
              refine br0 (by decide) ?_
              refine br0 (by decide) ?_
              refine ⟨by unfold vp_in; decide, ?_⟩
              refine ⟨by unfold vp_in; decide, ?_⟩
              refine un2_i ?_
              exact hq _ _ _ _ _ _ _ ⟨h_aRkf, h_aRhf, h_aRwf, ⟨by omega, by omega⟩⟩
            · refine br0 c34 ?_
              have d36 := nlt_z (x := (Int32.toInt d)) (y := 0) rfl rfl c34
              by_cases c37 : 99 < d
              · refine br1 c37 ?_
                have d38 := lt_z (x := 99) (y := (Int32.toInt d)) rfl rfl c37
                refine br1 (by decide) ?_
                refine o_X11_settle _ _ _ ?_
                refine jn_s ?_
                refine br0 (by decide) ?_
                refine br0 (by decide) ?_
                refine br0 (by decide) ?_
                refine ⟨by unfold vp_in; decide, ?_⟩
                refine ⟨by unfold vp_in; decide, ?_⟩
                refine un2_i ?_
                exact hq _ _ _ _ _ _ _ ⟨h_aRkf, h_aRhf, h_aRwf, ⟨by omega, by omega⟩⟩
              · refine br0 c37 ?_
                have d39 := nlt_z (x := 99) (y := (Int32.toInt d)) rfl rfl c37
                refine br0 (by decide) ?_
                refine jn_s ?_
                refine br0 (z_ne (x := (Int32.toInt b)) (y := 0) rfl rfl (by omega)) ?_
                refine br0 (z_ne (x := (Int32.toInt b)) (y := 0) rfl rfl (by omega)) ?_
                refine br0 (z_ne (x := (Int32.toInt b)) (y := 1) rfl rfl (by omega)) ?_
                refine ⟨vpi (x := (Int32.toInt a)) rfl (by omega) (by omega), ?_⟩
                refine ⟨vpi (x := (Int32.toInt a)) rfl (by omega) (by omega), ?_⟩
                refine o_X2_clear _ ?_
                refine o_X11_settle _ _ _ ?_
                refine jn_s ?_
                have g40 : 0 ≤ (Int32.toInt (aRwf a.toNatClampNeg)) ∧ (Int32.toInt (aRwf a.toNatClampNeg)) ≤ 99 := WA.at_0 h_aRwf (tnz (x := (Int32.toInt a)) rfl (by omega)) (by omega) (by omega)
                refine br1 (z_le (x := 0) (y := (Int32.toInt (aRwf a.toNatClampNeg))) rfl rfl (by omega)) ?_
                refine br1 (z_le (x := 0) (y := (Int32.toInt (aRwf a.toNatClampNeg))) rfl rfl (by omega)) ?_
                refine un2_i ?_
                have R41 : WA (upd aRwf a.toNatClampNeg d) := WA.up_0 h_aRwf (tnz (x := (Int32.toInt a)) rfl (by omega)) (by omega) (by omega) (w := (Int32.toInt d)) rfl (by omega) (by omega)
                exact hq _ _ _ _ _ _ _ ⟨h_aRkf, h_aRhf, R41, (by decide)⟩
          · refine br0 c32 ?_
            have d42 := ne_z (x := (Int32.toInt b)) (y := 2) rfl rfl c32
            refine br1 (by decide) ?_
            refine o_X11_settle _ _ _ ?_
            refine jn_s ?_
            refine br0 (by decide) ?_
            refine br0 (by decide) ?_
            refine br0 (by decide) ?_
            refine ⟨by unfold vp_in; decide, ?_⟩
            refine ⟨by unfold vp_in; decide, ?_⟩
            refine un2_i ?_
            exact hq _ _ _ _ _ _ _ ⟨h_aRkf, h_aRhf, h_aRwf, ⟨by omega, by omega⟩⟩


set_option maxRecDepth 100000 in
theorem s_X11_terms (a : Int32) (b : Int32) (rfs : Nat → Int32) (tf : Nat → Int32) (aD_kept : Int32) (h_tf : TE tf) (h_aD_kept : 0 ≤ aD_kept.toInt ∧ aD_kept.toInt ≤ 16) {Q : Int32 → (Int32 × (Nat → Int32) × (Nat → Int32) × Int32) → Prop} (hq : ∀ (r : Int32) (u_0 : Int32) (u_1 : Nat → Int32) (u_2 : Nat → Int32) (u_3 : Int32), (TE u_2) ∧ (0 ≤ u_3.toInt ∧ u_3.toInt ≤ 16) → Q r (u_0, u_1, u_2, u_3)) : wp_X11_terms a b rfs tf aD_kept Q := by
  unfold wp_X11_terms
  refine o_X10_termCanBe _ _ _ ?_
  by_cases c1 : a = 0
  · refine br1 c1 ?_
    have d2 := eq_z (x := (Int32.toInt a)) (y := 0) rfl rfl c1
    by_cases c3 : b < 0
    · refine br1 c3 ?_
      have d4 := lt_z (x := (Int32.toInt b)) (y := 0) rfl rfl c3
      refine br1 (by decide) ?_
      refine o_X11_settle _ _ _ ?_
      refine jn_s ?_
      refine br0 (by decide) ?_
      refine br0 (by decide) ?_
      refine br0 (by decide) ?_
      refine ⟨by unfold vp_in; decide, ?_⟩
      refine ⟨by unfold vp_in; decide, ?_⟩
      refine un2_i ?_
      exact hq _ _ _ _ _ ⟨h_tf, ⟨by omega, by omega⟩⟩
    · refine br0 c3 ?_
      have d5 := nlt_z (x := (Int32.toInt b)) (y := 0) rfl rfl c3
      by_cases c6 : 9999 < b
      · refine br1 c6 ?_
        have d7 := lt_z (x := 9999) (y := (Int32.toInt b)) rfl rfl c6
        refine br1 (by decide) ?_
        refine o_X11_settle _ _ _ ?_
        refine jn_s ?_
        refine br0 (by decide) ?_
        refine br0 (by decide) ?_
        refine br0 (by decide) ?_
        refine ⟨by unfold vp_in; decide, ?_⟩
        refine ⟨by unfold vp_in; decide, ?_⟩
        refine un2_i ?_
        exact hq _ _ _ _ _ ⟨h_tf, ⟨by omega, by omega⟩⟩
      · refine br0 c6 ?_
        have d8 := nlt_z (x := 9999) (y := (Int32.toInt b)) rfl rfl c6
        refine br0 (by decide) ?_
        refine ⟨vpi (x := (Int32.toInt a)) rfl (by omega) (by omega), ?_⟩
        refine ⟨vpi (x := (Int32.toInt a)) rfl (by omega) (by omega), ?_⟩
        refine o_X2_clear _ ?_
        refine o_X11_settle _ _ _ ?_
        refine jn_s ?_
        have g9 : 0 ≤ (Int32.toInt (tf a.toNatClampNeg)) ∧ (Int32.toInt (tf a.toNatClampNeg)) ≤ 9999 := TE.at_0 h_tf (tnz (x := (Int32.toInt a)) rfl (by omega)) (by omega) (by omega)
        refine br1 (z_le (x := 0) (y := (Int32.toInt (tf a.toNatClampNeg))) rfl rfl (by omega)) ?_
        refine br1 (z_le (x := 0) (y := (Int32.toInt (tf a.toNatClampNeg))) rfl rfl (by omega)) ?_
        refine un2_i ?_
        have R10 : TE (upd tf a.toNatClampNeg b) := TE.up_0 h_tf (tnz (x := (Int32.toInt a)) rfl (by omega)) (by omega) (by omega) (w := (Int32.toInt b)) rfl (by omega) (by omega)
        exact hq _ _ _ _ _ ⟨R10, (by decide)⟩
  · refine br0 c1 ?_
    have d11 := ne_z (x := (Int32.toInt a)) (y := 0) rfl rfl c1
    by_cases c12 : a = 1
    · refine br1 c12 ?_
      have d13 := eq_z (x := (Int32.toInt a)) (y := 1) rfl rfl c12
      by_cases c14 : b < 0
      · refine br1 c14 ?_
        have d15 := lt_z (x := (Int32.toInt b)) (y := 0) rfl rfl c14
        refine br1 (by decide) ?_
        refine o_X11_settle _ _ _ ?_
        refine jn_s ?_
        refine br0 (by decide) ?_
        refine br0 (by decide) ?_
        refine br0 (by decide) ?_
        refine ⟨by unfold vp_in; decide, ?_⟩
        refine ⟨by unfold vp_in; decide, ?_⟩
        refine un2_i ?_
        exact hq _ _ _ _ _ ⟨h_tf, ⟨by omega, by omega⟩⟩
      · refine br0 c14 ?_
        have d16 := nlt_z (x := (Int32.toInt b)) (y := 0) rfl rfl c14
        by_cases c17 : 10 < b
        · refine br1 c17 ?_
          have d18 := lt_z (x := 10) (y := (Int32.toInt b)) rfl rfl c17
          refine br1 (by decide) ?_
          refine o_X11_settle _ _ _ ?_
          refine jn_s ?_
          refine br0 (by decide) ?_
          refine br0 (by decide) ?_
          refine br0 (by decide) ?_
          refine ⟨by unfold vp_in; decide, ?_⟩
          refine ⟨by unfold vp_in; decide, ?_⟩
          refine un2_i ?_
          exact hq _ _ _ _ _ ⟨h_tf, ⟨by omega, by omega⟩⟩
        · refine br0 c17 ?_
          have d19 := nlt_z (x := 10) (y := (Int32.toInt b)) rfl rfl c17
          refine br0 (by decide) ?_
          refine ⟨vpi (x := (Int32.toInt a)) rfl (by omega) (by omega), ?_⟩
          refine ⟨vpi (x := (Int32.toInt a)) rfl (by omega) (by omega), ?_⟩
          refine o_X2_clear _ ?_
          refine o_X11_settle _ _ _ ?_
          refine jn_s ?_
          have g20 : 0 ≤ (Int32.toInt (tf a.toNatClampNeg)) ∧ (Int32.toInt (tf a.toNatClampNeg)) ≤ 9999 := TE.at_0 h_tf (tnz (x := (Int32.toInt a)) rfl (by omega)) (by omega) (by omega)
          refine br1 (z_le (x := 0) (y := (Int32.toInt (tf a.toNatClampNeg))) rfl rfl (by omega)) ?_
          refine br1 (z_le (x := 0) (y := (Int32.toInt (tf a.toNatClampNeg))) rfl rfl (by omega)) ?_
          refine un2_i ?_
          have R21 : TE (upd tf a.toNatClampNeg b) := TE.up_0 h_tf (tnz (x := (Int32.toInt a)) rfl (by omega)) (by omega) (by omega) (w := (Int32.toInt b)) rfl (by omega) (by omega)
          exact hq _ _ _ _ _ ⟨R21, (by decide)⟩
    · refine br0 c12 ?_
      have d22 := ne_z (x := (Int32.toInt a)) (y := 1) rfl rfl c12
      by_cases c23 : a = 2
      · refine br1 c23 ?_
        have d24 := eq_z (x := (Int32.toInt a)) (y := 2) rfl rfl c23
        by_cases c25 : b < 0
        · refine br1 c25 ?_
          have d26 := lt_z (x := (Int32.toInt b)) (y := 0) rfl rfl c25
          refine br1 (by decide) ?_
          refine o_X11_settle _ _ _ ?_
          refine jn_s ?_
          refine br0 (by decide) ?_
          refine br0 (by decide) ?_
          refine br0 (by decide) ?_
          refine ⟨by unfold vp_in; decide, ?_⟩
          refine ⟨by unfold vp_in; decide, ?_⟩
          refine un2_i ?_
          exact hq _ _ _ _ _ ⟨h_tf, ⟨by omega, by omega⟩⟩
        · refine br0 c25 ?_
          have d27 := nlt_z (x := (Int32.toInt b)) (y := 0) rfl rfl c25
          by_cases c28 : 9 < b
          · refine br1 c28 ?_
            have d29 := lt_z (x := 9) (y := (Int32.toInt b)) rfl rfl c28
            refine br1 (by decide) ?_
            refine o_X11_settle _ _ _ ?_
            refine jn_s ?_
            refine br0 (by decide) ?_
            refine br0 (by decide) ?_
            refine br0 (by decide) ?_
            refine ⟨by unfold vp_in; decide, ?_⟩
            refine ⟨by unfold vp_in; decide, ?_⟩
            refine un2_i ?_
            exact hq _ _ _ _ _ ⟨h_tf, ⟨by omega, by omega⟩⟩
          · refine br0 c28 ?_
            have d30 := nlt_z (x := 9) (y := (Int32.toInt b)) rfl rfl c28
            refine br0 (by decide) ?_
            refine ⟨vpi (x := (Int32.toInt a)) rfl (by omega) (by omega), ?_⟩
            refine ⟨vpi (x := (Int32.toInt a)) rfl (by omega) (by omega), ?_⟩
            refine o_X2_clear _ ?_
            refine o_X11_settle _ _ _ ?_
            refine jn_s ?_
            have g31 : 0 ≤ (Int32.toInt (tf a.toNatClampNeg)) ∧ (Int32.toInt (tf a.toNatClampNeg)) ≤ 9999 := TE.at_0 h_tf (tnz (x := (Int32.toInt a)) rfl (by omega)) (by omega) (by omega)
            refine br1 (z_le (x := 0) (y := (Int32.toInt (tf a.toNatClampNeg))) rfl rfl (by omega)) ?_
            refine br1 (z_le (x := 0) (y := (Int32.toInt (tf a.toNatClampNeg))) rfl rfl (by omega)) ?_
            refine un2_i ?_
            have R32 : TE (upd tf a.toNatClampNeg b) := TE.up_0 h_tf (tnz (x := (Int32.toInt a)) rfl (by omega)) (by omega) (by omega) (w := (Int32.toInt b)) rfl (by omega) (by omega)
            exact hq _ _ _ _ _ ⟨R32, (by decide)⟩
      · refine br0 c23 ?_
        have d33 := ne_z (x := (Int32.toInt a)) (y := 2) rfl rfl c23
        refine br1 (by decide) ?_
        refine o_X11_settle _ _ _ ?_
        refine jn_s ?_
        refine br0 (by decide) ?_
        refine br0 (by decide) ?_
        refine br0 (by decide) ?_
        refine ⟨by unfold vp_in; decide, ?_⟩
        refine ⟨by unfold vp_in; decide, ?_⟩
        refine un2_i ?_
        exact hq _ _ _ _ _ ⟨h_tf, ⟨by omega, by omega⟩⟩


set_option maxRecDepth 100000 in
theorem s_X11_sink (a : Int32) (rfs : Nat → Int32) (aR_dug : Int64) (aRkf : Nat → Int32) (aC_count : Int32) (aCcf : Nat → Int32) (aCbf : Nat → Int32) (aD_kept : Int32) (h_aRkf : KI aRkf) (h_aC_count : 0 ≤ aC_count.toInt ∧ aC_count.toInt ≤ 6) (h_aCcf : CE aCcf) (h_aCbf : BU aCbf) (h_aD_kept : 0 ≤ aD_kept.toInt ∧ aD_kept.toInt ≤ 16) {Q : Int32 → (Int32 × (Nat → Int32) × Int64 × Int32 × (Nat → Int32) × (Nat → Int32) × Int32) → Prop} (hq : ∀ (r : Int32) (u_0 : Int32) (u_1 : Nat → Int32) (u_2 : Int64) (u_3 : Int32) (u_4 : Nat → Int32) (u_5 : Nat → Int32) (u_6 : Int32), (0 ≤ u_3.toInt ∧ u_3.toInt ≤ 6) ∧ (CE u_4) ∧ (BU u_5) ∧ (0 ≤ u_6.toInt ∧ u_6.toInt ≤ 16) → Q r (u_0, u_1, u_2, u_3, u_4, u_5, u_6)) : wp_X11_sink a rfs aR_dug aRkf aC_count aCcf aCbf aD_kept Q := by
  unfold wp_X11_sink
  refine o_X11_isWithin _ _ _ ?_
  by_cases c1 : a < 0
  · refine br1 c1 ?_
    have d2 := lt_z (x := (Int32.toInt a)) (y := 0) rfl rfl c1
    refine br1 (by decide) ?_
    refine o_X11_settle _ _ _ ?_
    refine jn_s ?_
    refine br0 (by decide) ?_
    refine br0 (by decide) ?_
    refine br0 (by decide) ?_
    refine ⟨by unfold vp_in; decide, ?_⟩
    refine ⟨by unfold vp_in; decide, ?_⟩
    refine un2_i ?_
    exact hq _ _ _ _ _ _ _ _ ⟨⟨by omega, by omega⟩, h_aCcf, h_aCbf, ⟨by omega, by omega⟩⟩
  · refine br0 c1 ?_
    have d3 := nlt_z (x := (Int32.toInt a)) (y := 0) rfl rfl c1
    by_cases c4 : 8 ≤ a
    · refine br1 c4 ?_
      have d5 := le_z (x := 8) (y := (Int32.toInt a)) rfl rfl c4
      refine br1 (by decide) ?_
      refine o_X11_settle _ _ _ ?_
      refine jn_s ?_
      refine br0 (by decide) ?_
      refine br0 (by decide) ?_
      refine br0 (by decide) ?_
      refine ⟨by unfold vp_in; decide, ?_⟩
      refine ⟨by unfold vp_in; decide, ?_⟩
      refine un2_i ?_
      exact hq _ _ _ _ _ _ _ _ ⟨⟨by omega, by omega⟩, h_aCcf, h_aCbf, ⟨by omega, by omega⟩⟩
    · refine br0 c4 ?_
      have d6 := nle_z (x := 8) (y := (Int32.toInt a)) rfl rfl c4
      refine br0 (by decide) ?_
      refine o_X6_isDug _ _ _ ?_
      by_cases c7 : (lg_cmp ((aR_dug >>> (a.toInt64 &&& 63)) &&& 1) 0) = 0
      · refine br1 c7 ?_
        have d8 := c_eq (x := (Int64.toInt ((aR_dug >>> (a.toInt64 &&& 63)) &&& 1))) (y := 0) rfl rfl c7
        refine br1 (by decide) ?_
        refine ⟨vpi (x := (Int32.toInt a)) rfl (by omega) (by omega), ?_⟩
        by_cases c9 : (aRkf a.toNatClampNeg) = 1
        · refine br1 c9 ?_
          have g10 : 0 ≤ (Int32.toInt (aRkf a.toNatClampNeg)) ∧ (Int32.toInt (aRkf a.toNatClampNeg)) ≤ 3 := KI.at_0 h_aRkf (tnz (x := (Int32.toInt a)) rfl (by omega)) (by omega) (by omega)
          have d11 := eq_z (x := (Int32.toInt (aRkf a.toNatClampNeg))) (y := 1) rfl rfl c9
          refine o_X11_settle _ _ _ ?_
          refine jn_s ?_
          refine br0 (by decide) ?_
          refine br0 (by decide) ?_
          refine br0 (by decide) ?_
          refine ⟨by unfold vp_in; decide, ?_⟩
          refine ⟨by unfold vp_in; decide, ?_⟩
          refine un2_i ?_
          exact hq _ _ _ _ _ _ _ _ ⟨⟨by omega, by omega⟩, h_aCcf, h_aCbf, ⟨by omega, by omega⟩⟩
        · refine br0 c9 ?_
          have g12 : 0 ≤ (Int32.toInt (aRkf a.toNatClampNeg)) ∧ (Int32.toInt (aRkf a.toNatClampNeg)) ≤ 3 := KI.at_0 h_aRkf (tnz (x := (Int32.toInt a)) rfl (by omega)) (by omega) (by omega)
          have d13 := ne_z (x := (Int32.toInt (aRkf a.toNatClampNeg))) (y := 1) rfl rfl c9
          by_cases c14 : aC_count < 6
          · refine br1 c14 ?_
            have d15 := lt_z (x := (Int32.toInt aC_count)) (y := 6) rfl rfl c14
            refine o_X6_mark _ _ _ ?_
            refine s_X1_add a aC_count (aCcf) (aCbf) ⟨by omega, by omega⟩ ⟨by omega, by omega⟩ h_aCcf h_aCbf (fun u16_0 u16_1 u16_2 H17 => ?_)
            have j18 := H17.1
            have j19 := H17.2.1
            have j20 := H17.2.2
            refine un3_i ?_
            refine o_X2_clear _ ?_
            refine o_X11_settle _ _ _ ?_
            refine jn_s ?_
            by_cases c21 : 0 ≤ (u16_0 - 1)
            · refine br1 c21 ?_
              have t22 : (Int32.toInt (u16_0 - 1)) = (Int32.toInt u16_0) - 1 := sub_z rfl rfl (by omega) (by omega)
              have d23 := le_z (x := 0) (y := (Int32.toInt (u16_0 - 1))) rfl rfl c21
              refine br1 (z_le (x := 0) (y := (Int32.toInt (u16_0 - 1))) rfl rfl (by omega)) ?_
              refine un2_i ?_
              exact hq _ _ _ _ _ _ _ _ ⟨⟨by omega, by omega⟩, j19, j20, (by decide)⟩
            · refine br0 c21 ?_
              have t24 : (Int32.toInt (u16_0 - 1)) = (Int32.toInt u16_0) - 1 := sub_z rfl rfl (by omega) (by omega)
              have d25 := nle_z (x := 0) (y := (Int32.toInt (u16_0 - 1))) rfl rfl c21
              refine br0 (z_nle (x := 0) (y := (Int32.toInt (u16_0 - 1))) rfl rfl (by omega)) ?_
              have t26 : (Int32.toInt (-(u16_0 - 1))) = - (Int32.toInt (u16_0 - 1)) := neg_z rfl (by omega) (by omega)
              refine br0 (z_nle (x := 7) (y := (Int32.toInt (-(u16_0 - 1)))) rfl rfl (by omega)) ?_
              refine ⟨vpi (x := (Int32.toInt (-(u16_0 - 1)))) rfl (by omega) (by omega), ?_⟩
              refine ⟨vpi (x := (Int32.toInt (-(u16_0 - 1)))) rfl (by omega) (by omega), ?_⟩
              refine un2_i ?_
              exact hq _ _ _ _ _ _ _ _ ⟨⟨by omega, by omega⟩, j19, j20, (by decide)⟩
          · refine br0 c14 ?_
            have d27 := nlt_z (x := (Int32.toInt aC_count)) (y := 6) rfl rfl c14
            refine o_X11_settle _ _ _ ?_
            refine jn_s ?_
            refine br0 (by decide) ?_
            refine br0 (by decide) ?_
            refine br0 (by decide) ?_
            refine ⟨by unfold vp_in; decide, ?_⟩
            refine ⟨by unfold vp_in; decide, ?_⟩
            refine un2_i ?_
            exact hq _ _ _ _ _ _ _ _ ⟨⟨by omega, by omega⟩, h_aCcf, h_aCbf, ⟨by omega, by omega⟩⟩
      · refine br0 c7 ?_
        have d28 := c_ne (x := (Int64.toInt ((aR_dug >>> (a.toInt64 &&& 63)) &&& 1))) (y := 0) rfl rfl c7
        refine br0 (by decide) ?_
        refine o_X11_settle _ _ _ ?_
        refine jn_s ?_
        refine br0 (by decide) ?_
        refine br0 (by decide) ?_
        refine br0 (by decide) ?_
        refine ⟨by unfold vp_in; decide, ?_⟩
        refine ⟨by unfold vp_in; decide, ?_⟩
        refine un2_i ?_
        exact hq _ _ _ _ _ _ _ _ ⟨⟨by omega, by omega⟩, h_aCcf, h_aCbf, ⟨by omega, by omega⟩⟩


set_option maxRecDepth 100000 in
theorem s_X11_heard (a : Int32) (b : Int32) (rfs : Nat → Int32) (aF_hearsay : Int32) (aFhearnf : Nat → Int32) (aFheardf : Nat → Int32) (h_aF_hearsay : 0 ≤ aF_hearsay.toInt ∧ aF_hearsay.toInt ≤ 8) (h_aFhearnf : HC aFhearnf) (h_aFheardf : HL aFheardf) {Q : Int32 → (Int32 × (Nat → Int32) × Int32 × (Nat → Int32) × (Nat → Int32)) → Prop} (hq : ∀ (r : Int32) (u_0 : Int32) (u_1 : Nat → Int32) (u_2 : Int32) (u_3 : Nat → Int32) (u_4 : Nat → Int32), (0 ≤ u_2.toInt ∧ u_2.toInt ≤ 8) ∧ (HC u_3) ∧ (HL u_4) → Q r (u_0, u_1, u_2, u_3, u_4)) : wp_X11_heard a b rfs aF_hearsay aFhearnf aFheardf Q := by
  unfold wp_X11_heard
  refine o_X11_isWithin _ _ _ ?_
  by_cases c1 : a < 0
  · refine br1 c1 ?_
    have d2 := lt_z (x := (Int32.toInt a)) (y := 0) rfl rfl c1
    refine br1 (by decide) ?_
    refine o_X11_settle _ _ _ ?_
    refine jn_s ?_
    refine br0 (by decide) ?_
    refine br0 (by decide) ?_
    refine br0 (by decide) ?_
    refine ⟨by unfold vp_in; decide, ?_⟩
    refine ⟨by unfold vp_in; decide, ?_⟩
    refine un2_i ?_
    exact hq _ _ _ _ _ _ ⟨⟨by omega, by omega⟩, h_aFhearnf, h_aFheardf⟩
  · refine br0 c1 ?_
    have d3 := nlt_z (x := (Int32.toInt a)) (y := 0) rfl rfl c1
    by_cases c4 : 8 ≤ a
    · refine br1 c4 ?_
      have d5 := le_z (x := 8) (y := (Int32.toInt a)) rfl rfl c4
      refine br1 (by decide) ?_
      refine o_X11_settle _ _ _ ?_
      refine jn_s ?_
      refine br0 (by decide) ?_
      refine br0 (by decide) ?_
      refine br0 (by decide) ?_
      refine ⟨by unfold vp_in; decide, ?_⟩
      refine ⟨by unfold vp_in; decide, ?_⟩
      refine un2_i ?_
      exact hq _ _ _ _ _ _ ⟨⟨by omega, by omega⟩, h_aFhearnf, h_aFheardf⟩
    · refine br0 c4 ?_
      have d6 := nle_z (x := 8) (y := (Int32.toInt a)) rfl rfl c4
      refine br0 (by decide) ?_
      refine o_X11_isWithin _ _ _ ?_
      by_cases c7 : b < 0
      · refine br1 c7 ?_
        have d8 := lt_z (x := (Int32.toInt b)) (y := 0) rfl rfl c7
        refine br1 (by decide) ?_
        refine o_X11_settle _ _ _ ?_
        refine jn_s ?_
        refine br0 (by decide) ?_
        refine br0 (by decide) ?_
        refine br0 (by decide) ?_
        refine ⟨by unfold vp_in; decide, ?_⟩
        refine ⟨by unfold vp_in; decide, ?_⟩
        refine un2_i ?_
        exact hq _ _ _ _ _ _ ⟨⟨by omega, by omega⟩, h_aFhearnf, h_aFheardf⟩
      · refine br0 c7 ?_
        have d9 := nlt_z (x := (Int32.toInt b)) (y := 0) rfl rfl c7
        by_cases c10 : 100 ≤ b
        · refine br1 c10 ?_
          have d11 := le_z (x := 100) (y := (Int32.toInt b)) rfl rfl c10
          refine br1 (by decide) ?_
          refine o_X11_settle _ _ _ ?_
          refine jn_s ?_
          refine br0 (by decide) ?_
          refine br0 (by decide) ?_
          refine br0 (by decide) ?_
          refine ⟨by unfold vp_in; decide, ?_⟩
          refine ⟨by unfold vp_in; decide, ?_⟩
          refine un2_i ?_
          exact hq _ _ _ _ _ _ ⟨⟨by omega, by omega⟩, h_aFhearnf, h_aFheardf⟩
        · refine br0 c10 ?_
          have d12 := nle_z (x := 100) (y := (Int32.toInt b)) rfl rfl c10
          refine br0 (by decide) ?_
          by_cases c13 : aF_hearsay < 8
          · refine br1 c13 ?_
            have d14 := lt_z (x := (Int32.toInt aF_hearsay)) (y := 8) rfl rfl c13
            refine s_X4_addHearsay a b aF_hearsay (aFhearnf) (aFheardf) ⟨by omega, by omega⟩ ⟨by omega, by omega⟩ ⟨by omega, by omega⟩ h_aFhearnf h_aFheardf (fun u15_0 u15_1 u15_2 H16 => ?_)
            have j17 := H16.1
            have j18 := H16.2.1
            have j19 := H16.2.2
            refine un3_i ?_
            refine o_X11_settle _ _ _ ?_
            refine jn_s ?_
            refine br1 (z_le (x := 0) (y := (Int32.toInt u15_0)) rfl rfl (by omega)) ?_
            refine br1 (z_le (x := 0) (y := (Int32.toInt u15_0)) rfl rfl (by omega)) ?_
            refine un2_i ?_
            exact hq _ _ _ _ _ _ ⟨⟨by omega, by omega⟩, j18, j19⟩
          · refine br0 c13 ?_
            have d20 := nlt_z (x := (Int32.toInt aF_hearsay)) (y := 8) rfl rfl c13
            refine o_X11_settle _ _ _ ?_
            refine jn_s ?_
            refine br0 (by decide) ?_
            refine br0 (by decide) ?_
            refine br0 (by decide) ?_
            refine ⟨by unfold vp_in; decide, ?_⟩
            refine ⟨by unfold vp_in; decide, ?_⟩
            refine un2_i ?_
            exact hq _ _ _ _ _ _ ⟨⟨by omega, by omega⟩, h_aFhearnf, h_aFheardf⟩


set_option maxRecDepth 100000 in
theorem s_X11_well (a : Int32) (b : Int32) (rfs : Nat → Int32) (aF_wells : Int32) (aFsounsf : Nat → Int32) (aFwettf : Nat → Int32) (h_aF_wells : 0 ≤ aF_wells.toInt ∧ aF_wells.toInt ≤ 10) {Q : Int32 → (Int32 × (Nat → Int32) × Int32 × (Nat → Int32) × (Nat → Int32)) → Prop} (hq : ∀ (r : Int32) (u_0 : Int32) (u_1 : Nat → Int32) (u_2 : Int32) (u_3 : Nat → Int32) (u_4 : Nat → Int32), (0 ≤ u_2.toInt ∧ u_2.toInt ≤ 10) → Q r (u_0, u_1, u_2, u_3, u_4)) : wp_X11_well a b rfs aF_wells aFsounsf aFwettf Q := by
  unfold wp_X11_well
  refine o_X11_isWithin _ _ _ ?_
  by_cases c1 : a < 0
  · refine br1 c1 ?_
    have d2 := lt_z (x := (Int32.toInt a)) (y := 0) rfl rfl c1
    refine br1 (by decide) ?_
    refine o_X11_settle _ _ _ ?_
    refine jn_s ?_
    refine br0 (by decide) ?_
    refine br0 (by decide) ?_
    refine br0 (by decide) ?_
    refine ⟨by unfold vp_in; decide, ?_⟩
    refine ⟨by unfold vp_in; decide, ?_⟩
    refine un2_i ?_
    exact hq _ _ _ _ _ _ ⟨by omega, by omega⟩
  · refine br0 c1 ?_
    have d3 := nlt_z (x := (Int32.toInt a)) (y := 0) rfl rfl c1
    by_cases c4 : 64 ≤ a
    · refine br1 c4 ?_
      have d5 := le_z (x := 64) (y := (Int32.toInt a)) rfl rfl c4
      refine br1 (by decide) ?_
      refine o_X11_settle _ _ _ ?_
      refine jn_s ?_
      refine br0 (by decide) ?_
      refine br0 (by decide) ?_
      refine br0 (by decide) ?_
      refine ⟨by unfold vp_in; decide, ?_⟩
      refine ⟨by unfold vp_in; decide, ?_⟩
      refine un2_i ?_
      exact hq _ _ _ _ _ _ ⟨by omega, by omega⟩
    · refine br0 c4 ?_
      have d6 := nle_z (x := 64) (y := (Int32.toInt a)) rfl rfl c4
      refine br0 (by decide) ?_
      refine o_X11_isWithin _ _ _ ?_
      by_cases c7 : b < 0
      · refine br1 c7 ?_
        have d8 := lt_z (x := (Int32.toInt b)) (y := 0) rfl rfl c7
        refine br1 (by decide) ?_
        refine o_X11_settle _ _ _ ?_
        refine jn_s ?_
        refine br0 (by decide) ?_
        refine br0 (by decide) ?_
        refine br0 (by decide) ?_
        refine ⟨by unfold vp_in; decide, ?_⟩
        refine ⟨by unfold vp_in; decide, ?_⟩
        refine un2_i ?_
        exact hq _ _ _ _ _ _ ⟨by omega, by omega⟩
      · refine br0 c7 ?_
        have d9 := nlt_z (x := (Int32.toInt b)) (y := 0) rfl rfl c7
        by_cases c10 : 2 ≤ b
        · refine br1 c10 ?_
          have d11 := le_z (x := 2) (y := (Int32.toInt b)) rfl rfl c10
          refine br1 (by decide) ?_
          refine o_X11_settle _ _ _ ?_
          refine jn_s ?_
          refine br0 (by decide) ?_
          refine br0 (by decide) ?_
          refine br0 (by decide) ?_
          refine ⟨by unfold vp_in; decide, ?_⟩
          refine ⟨by unfold vp_in; decide, ?_⟩
          refine un2_i ?_
          exact hq _ _ _ _ _ _ ⟨by omega, by omega⟩
        · refine br0 c10 ?_
          have d12 := nle_z (x := 2) (y := (Int32.toInt b)) rfl rfl c10
          refine br0 (by decide) ?_
          by_cases c13 : aF_wells < 10
          · refine br1 c13 ?_
            have d14 := lt_z (x := (Int32.toInt aF_wells)) (y := 10) rfl rfl c13
            refine s_X4_addWell a b aF_wells (aFsounsf) (aFwettf) ⟨by omega, by omega⟩ (fun u15_0 u15_1 u15_2 H16 => ?_)
            have j17 := H16
            refine un3_i ?_
            refine o_X11_settle _ _ _ ?_
            refine jn_s ?_
            refine br1 (z_le (x := 0) (y := (Int32.toInt u15_0)) rfl rfl (by omega)) ?_
            refine br1 (z_le (x := 0) (y := (Int32.toInt u15_0)) rfl rfl (by omega)) ?_
            refine un2_i ?_
            exact hq _ _ _ _ _ _ ⟨by omega, by omega⟩
          · refine br0 c13 ?_
            have d18 := nlt_z (x := (Int32.toInt aF_wells)) (y := 10) rfl rfl c13
            refine o_X11_settle _ _ _ ?_
            refine jn_s ?_
            refine br0 (by decide) ?_
            refine br0 (by decide) ?_
            refine br0 (by decide) ?_
            refine ⟨by unfold vp_in; decide, ?_⟩
            refine ⟨by unfold vp_in; decide, ?_⟩
            refine un2_i ?_
            exact hq _ _ _ _ _ _ ⟨by omega, by omega⟩


set_option maxRecDepth 100000 in
theorem s_X11_forget (aF_hearsay : Int32) (aF_wells : Int32) (h_aF_hearsay : 0 ≤ aF_hearsay.toInt ∧ aF_hearsay.toInt ≤ 8) (h_aF_wells : 0 ≤ aF_wells.toInt ∧ aF_wells.toInt ≤ 10) {Q : Int32 → (Int32 × Int32) → Prop} (hq : ∀ (r : Int32) (u_0 : Int32) (u_1 : Int32), (0 ≤ u_0.toInt ∧ u_0.toInt ≤ 8) ∧ (0 ≤ u_1.toInt ∧ u_1.toInt ≤ 10) → Q r (u_0, u_1)) : wp_X11_forget aF_hearsay aF_wells Q := by
  unfold wp_X11_forget
  have t1 : (Int32.toInt (aF_hearsay + aF_wells)) = (Int32.toInt aF_hearsay) + (Int32.toInt aF_wells) := add_z rfl rfl (by omega) (by omega)
  exact hq _ _ _ ⟨(by decide), (by decide)⟩


set_option maxRecDepth 100000 in
theorem sl_X1_countIn_5 (a : Int64) (h0_count : Int32) (h0cf : Nat → Int32) (h_h0_count : 0 ≤ h0_count.toInt ∧ h0_count.toInt ≤ 6) (h_h0cf : CE h0cf) (Qb : Int32 → Int32 → Prop) (KX : ∀ (x_5_0 : Int32) (x_5_1 : Int32), (0 ≤ x_5_0.toInt ∧ x_5_0.toInt ≤ 6) → Qb x_5_0 x_5_1) : ∀ (n : Nat) (x_5_0 : Int32) (x_5_1 : Int32), (0 ≤ x_5_0.toInt ∧ x_5_0.toInt ≤ 6) → 7 - x_5_0.toInt < (n : Int) → wl_X1_countIn_5 a h0_count h0cf Qb n x_5_0 x_5_1 := by
  intro n
  induction n with
  | zero =>
    intro x_5_0 x_5_1 hI hm
    exfalso; have hm : 7 - x_5_0.toInt < 0 := hm; omega
  | succ n ih =>
    intro x_5_0 x_5_1 hI hm
    have hm : 7 - x_5_0.toInt < (n : Int) + 1 := by simpa using hm
    have h_x_5_0 := hI
    unfold wl_X1_countIn_5
    by_cases c1 : h0_count ≤ x_5_0
    · refine br1 c1 ?_
      have d2 := le_z (x := (Int32.toInt h0_count)) (y := (Int32.toInt x_5_0)) rfl rfl c1
      exact KX _ _ ⟨by omega, by omega⟩
    · refine br0 c1 ?_
      have d3 := nle_z (x := (Int32.toInt h0_count)) (y := (Int32.toInt x_5_0)) rfl rfl c1
      refine ⟨vpi (x := (Int32.toInt x_5_0)) rfl (by omega) (by omega), ?_⟩
      by_cases c4 : (lg_cmp ((a >>> ((h0cf x_5_0.toNatClampNeg).toInt64 &&& 63)) &&& 1) 0) = 0
      · refine br1 c4 ?_
        have g5 : 0 ≤ (Int32.toInt (h0cf x_5_0.toNatClampNeg)) ∧ (Int32.toInt (h0cf x_5_0.toNatClampNeg)) ≤ 39 := CE.at_0 h_h0cf (tnz (x := (Int32.toInt x_5_0)) rfl (by omega)) (by omega) (by omega)
        have d6 := c_eq (x := (Int64.toInt ((a >>> ((h0cf x_5_0.toNatClampNeg).toInt64 &&& 63)) &&& 1))) (y := 0) rfl rfl c4
        have t7 : (Int32.toInt (x_5_0 + 1)) = (Int32.toInt x_5_0) + 1 := add_z rfl rfl (by omega) (by omega)
        exact ih _ _ ⟨by omega, by omega⟩ (by omega)
      · refine br0 c4 ?_
        have g8 : 0 ≤ (Int32.toInt (h0cf x_5_0.toNatClampNeg)) ∧ (Int32.toInt (h0cf x_5_0.toNatClampNeg)) ≤ 39 := CE.at_0 h_h0cf (tnz (x := (Int32.toInt x_5_0)) rfl (by omega)) (by omega) (by omega)
        have d9 := c_ne (x := (Int64.toInt ((a >>> ((h0cf x_5_0.toNatClampNeg).toInt64 &&& 63)) &&& 1))) (y := 0) rfl rfl c4
        have t10 : (Int32.toInt (x_5_0 + 1)) = (Int32.toInt x_5_0) + 1 := add_z rfl rfl (by omega) (by omega)
        exact ih _ _ ⟨by omega, by omega⟩ (by omega)
set_option maxRecDepth 100000 in
theorem s_X1_countIn (a : Int64) (h0_count : Int32) (h0cf : Nat → Int32) (h_h0_count : 0 ≤ h0_count.toInt ∧ h0_count.toInt ≤ 6) (h_h0cf : CE h0cf) {Q : Int32 → Prop} (hq : ∀ (r : Int32), True → Q r) : wp_X1_countIn a h0_count h0cf Q := by
  unfold wp_X1_countIn
  have k3 : Int32.toInt 0 = 0 := rfl
  refine sl_X1_countIn_5 a h0_count (h0cf) ⟨by omega, by omega⟩ h_h0cf _ (fun x1_0 x1_1 X2 => ?_) 1000000000000 0 0 (by decide) (by omega)
  have j4 := X2
  exact hq _ trivial


set_option maxRecDepth 100000 in
theorem sl_X1_allBuckets_4 (h0_count : Int32) (h0bf : Nat → Int32) (h_h0_count : 0 ≤ h0_count.toInt ∧ h0_count.toInt ≤ 6) (h_h0bf : BU h0bf) (Qb : Int32 → Int32 → Prop) (KX : ∀ (x_4_0 : Int32) (x_4_1 : Int32), (0 ≤ x_4_0.toInt ∧ x_4_0.toInt ≤ 6) → Qb x_4_0 x_4_1) : ∀ (n : Nat) (x_4_0 : Int32) (x_4_1 : Int32), (0 ≤ x_4_0.toInt ∧ x_4_0.toInt ≤ 6) → 7 - x_4_0.toInt < (n : Int) → wl_X1_allBuckets_4 h0_count h0bf Qb n x_4_0 x_4_1 := by
  intro n
  induction n with
  | zero =>
    intro x_4_0 x_4_1 hI hm
    exfalso; have hm : 7 - x_4_0.toInt < 0 := hm; omega
  | succ n ih =>
    intro x_4_0 x_4_1 hI hm
    have hm : 7 - x_4_0.toInt < (n : Int) + 1 := by simpa using hm
    have h_x_4_0 := hI
    unfold wl_X1_allBuckets_4
    by_cases c1 : h0_count ≤ x_4_0
    · refine br1 c1 ?_
      have d2 := le_z (x := (Int32.toInt h0_count)) (y := (Int32.toInt x_4_0)) rfl rfl c1
      exact KX _ _ ⟨by omega, by omega⟩
    · refine br0 c1 ?_
      have d3 := nle_z (x := (Int32.toInt h0_count)) (y := (Int32.toInt x_4_0)) rfl rfl c1
      refine ⟨vpi (x := (Int32.toInt x_4_0)) rfl (by omega) (by omega), ?_⟩
      have t4 : (Int32.toInt (x_4_0 + 1)) = (Int32.toInt x_4_0) + 1 := add_z rfl rfl (by omega) (by omega)
      have g5 : 0 ≤ (Int32.toInt (h0bf x_4_0.toNatClampNeg)) ∧ (Int32.toInt (h0bf x_4_0.toNatClampNeg)) ≤ 9999 := BU.at_0 h_h0bf (tnz (x := (Int32.toInt x_4_0)) rfl (by omega)) (by omega) (by omega)
      exact ih _ _ ⟨by omega, by omega⟩ (by omega)
set_option maxRecDepth 100000 in
theorem s_X1_allBuckets (h0_count : Int32) (h0bf : Nat → Int32) (h_h0_count : 0 ≤ h0_count.toInt ∧ h0_count.toInt ≤ 6) (h_h0bf : BU h0bf) {Q : Int32 → Prop} (hq : ∀ (r : Int32), True → Q r) : wp_X1_allBuckets h0_count h0bf Q := by
  unfold wp_X1_allBuckets
  have k3 : Int32.toInt 0 = 0 := rfl
  refine sl_X1_allBuckets_4 h0_count (h0bf) ⟨by omega, by omega⟩ h_h0bf _ (fun x1_0 x1_1 X2 => ?_) 1000000000000 0 0 (by decide) (by omega)
  have j4 := X2
  exact hq _ trivial


set_option maxRecDepth 100000 in
theorem sl_X4_noiseIn_13 (a : Int32) (b : Int32) (h0_noises : Int32) (h0_hushed : Int32) (h0noisnf : Nat → Int32) (h0noisdf : Nat → Int32) (h_a : 0 ≤ a.toInt ∧ a.toInt ≤ 7) (h_h0_noises : 0 ≤ h0_noises.toInt ∧ h0_noises.toInt ≤ 6) (h_h0noisnf : NC h0noisnf) (h_h0noisdf : NL h0noisdf) (Qb : Int32 → Int32 → Prop) (KX : ∀ (x_13_0 : Int32) (x_13_1 : Int32), (0 ≤ x_13_0.toInt ∧ x_13_0.toInt ≤ 6) → Qb x_13_0 x_13_1) : ∀ (n : Nat) (x_13_0 : Int32) (x_13_1 : Int32), (0 ≤ x_13_0.toInt ∧ x_13_0.toInt ≤ 6) → 7 - x_13_0.toInt < (n : Int) → wl_X4_noiseIn_13 a b h0_noises h0_hushed h0noisnf h0noisdf Qb n x_13_0 x_13_1 := by
  intro n
  induction n with
  | zero =>
    intro x_13_0 x_13_1 hI hm
    exfalso; have hm : 7 - x_13_0.toInt < 0 := hm; omega
  | succ n ih =>
    intro x_13_0 x_13_1 hI hm
    have hm : 7 - x_13_0.toInt < (n : Int) + 1 := by simpa using hm
    have h_x_13_0 := hI
    unfold wl_X4_noiseIn_13
    by_cases c1 : h0_noises ≤ x_13_0
    · refine br1 c1 ?_
      have d2 := le_z (x := (Int32.toInt h0_noises)) (y := (Int32.toInt x_13_0)) rfl rfl c1
      exact KX _ _ ⟨by omega, by omega⟩
    · refine br0 c1 ?_
      have d3 := nle_z (x := (Int32.toInt h0_noises)) (y := (Int32.toInt x_13_0)) rfl rfl c1
      by_cases c4 : (((h0_hushed ||| b) >>> (x_13_0 &&& 31)) &&& 1) = 0
      · refine br1 c4 ?_
        have t5 : 0 ≤ (Int32.toInt (((h0_hushed ||| b) >>> (x_13_0 &&& 31)) &&& 1)) ∧ (Int32.toInt (((h0_hushed ||| b) >>> (x_13_0 &&& 31)) &&& 1)) ≤ 1 := and_z (by decide)
        have d6 := eq_z (x := (Int32.toInt (((h0_hushed ||| b) >>> (x_13_0 &&& 31)) &&& 1))) (y := 0) rfl rfl c4
        refine ⟨vpi (x := (Int32.toInt x_13_0)) rfl (by omega) (by omega), ?_⟩
        refine ⟨vpi (x := (Int32.toInt x_13_0)) rfl (by omega) (by omega), ?_⟩
        have t7 : (Int32.toInt (x_13_0 + 1)) = (Int32.toInt x_13_0) + 1 := add_z rfl rfl (by omega) (by omega)
        have g8 : 0 ≤ (Int32.toInt (h0noisdf x_13_0.toNatClampNeg)) ∧ (Int32.toInt (h0noisdf x_13_0.toNatClampNeg)) ≤ 20 := NL.at_0 h_h0noisdf (tnz (x := (Int32.toInt x_13_0)) rfl (by omega)) (by omega) (by omega)
        have g9 : 0 ≤ (Int32.toInt (h0noisnf x_13_0.toNatClampNeg)) ∧ (Int32.toInt (h0noisnf x_13_0.toNatClampNeg)) ≤ 7 := NC.at_0 h_h0noisnf (tnz (x := (Int32.toInt x_13_0)) rfl (by omega)) (by omega) (by omega)
        have t10 : (Int32.toInt ((h0noisnf x_13_0.toNatClampNeg) - a)) = (Int32.toInt (h0noisnf x_13_0.toNatClampNeg)) - (Int32.toInt a) := sub_z rfl rfl (by omega) (by omega)
        have t11 := ab_z (a := ((h0noisnf x_13_0.toNatClampNeg) - a)) (by omega)
        have t12 : (Int32.toInt ((h0noisdf x_13_0.toNatClampNeg) - (if 0 ≤ ((h0noisnf x_13_0.toNatClampNeg) - a) then ((h0noisnf x_13_0.toNatClampNeg) - a) else 0 - ((h0noisnf x_13_0.toNatClampNeg) - a)))) = (Int32.toInt (h0noisdf x_13_0.toNatClampNeg)) - (Int32.toInt (if 0 ≤ ((h0noisnf x_13_0.toNatClampNeg) - a) then ((h0noisnf x_13_0.toNatClampNeg) - a) else 0 - ((h0noisnf x_13_0.toNatClampNeg) - a))) := sub_z rfl rfl (by omega) (by omega)
        have t13 := mx_z (a := 0) (b := ((h0noisdf x_13_0.toNatClampNeg) - (if 0 ≤ ((h0noisnf x_13_0.toNatClampNeg) - a) then ((h0noisnf x_13_0.toNatClampNeg) - a) else 0 - ((h0noisnf x_13_0.toNatClampNeg) - a))))
        have k14 : Int32.toInt 0 = 0 := rfl
        exact ih _ _ ⟨by omega, by omega⟩ (by omega)
      · refine br0 c4 ?_
        have t15 : 0 ≤ (Int32.toInt (((h0_hushed ||| b) >>> (x_13_0 &&& 31)) &&& 1)) ∧ (Int32.toInt (((h0_hushed ||| b) >>> (x_13_0 &&& 31)) &&& 1)) ≤ 1 := and_z (by decide)
        have d16 := ne_z (x := (Int32.toInt (((h0_hushed ||| b) >>> (x_13_0 &&& 31)) &&& 1))) (y := 0) rfl rfl c4
        have t17 : (Int32.toInt (x_13_0 + 1)) = (Int32.toInt x_13_0) + 1 := add_z rfl rfl (by omega) (by omega)
        exact ih _ _ ⟨by omega, by omega⟩ (by omega)
set_option maxRecDepth 100000 in
theorem s_X4_noiseIn (a : Int32) (b : Int32) (h0_noises : Int32) (h0_hushed : Int32) (h0noisnf : Nat → Int32) (h0noisdf : Nat → Int32) (h_a : 0 ≤ a.toInt ∧ a.toInt ≤ 7) (h_h0_noises : 0 ≤ h0_noises.toInt ∧ h0_noises.toInt ≤ 6) (h_h0noisnf : NC h0noisnf) (h_h0noisdf : NL h0noisdf) {Q : Int32 → Prop} (hq : ∀ (r : Int32), True → Q r) : wp_X4_noiseIn a b h0_noises h0_hushed h0noisnf h0noisdf Q := by
  unfold wp_X4_noiseIn
  have k3 : Int32.toInt 0 = 0 := rfl
  refine sl_X4_noiseIn_13 a b h0_noises h0_hushed (h0noisnf) (h0noisdf) ⟨by omega, by omega⟩ ⟨by omega, by omega⟩ h_h0noisnf h_h0noisdf _ (fun x1_0 x1_1 X2 => ?_) 1000000000000 0 0 (by decide) (by omega)
  have j4 := X2
  exact hq _ trivial


set_option maxRecDepth 100000 in
theorem sl_X6_waterIn_5 (a : Int64) (h0wf : Nat → Int32) (h_h0wf : WA h0wf) (Qb : Int32 → Int32 → Prop) (KX : ∀ (x_5_0 : Int32) (x_5_1 : Int32), (40 ≤ x_5_0.toInt ∧ x_5_0.toInt ≤ 40) → Qb x_5_0 x_5_1) : ∀ (n : Nat) (x_5_0 : Int32) (x_5_1 : Int32), (0 ≤ x_5_0.toInt ∧ x_5_0.toInt ≤ 40) → 41 - x_5_0.toInt < (n : Int) → wl_X6_waterIn_5 a h0wf Qb n x_5_0 x_5_1 := by
  intro n
  induction n with
  | zero =>
    intro x_5_0 x_5_1 hI hm
    exfalso; have hm : 41 - x_5_0.toInt < 0 := hm; omega
  | succ n ih =>
    intro x_5_0 x_5_1 hI hm
    have hm : 41 - x_5_0.toInt < (n : Int) + 1 := by simpa using hm
    have h_x_5_0 := hI
    unfold wl_X6_waterIn_5
    by_cases c1 : 40 ≤ x_5_0
    · refine br1 c1 ?_
      have d2 := le_z (x := 40) (y := (Int32.toInt x_5_0)) rfl rfl c1
      exact KX _ _ ⟨by omega, by omega⟩
    · refine br0 c1 ?_
      have d3 := nle_z (x := 40) (y := (Int32.toInt x_5_0)) rfl rfl c1
      by_cases c4 : (lg_cmp ((a >>> (x_5_0.toInt64 &&& 63)) &&& 1) 0) = 0
      · refine br1 c4 ?_
        have d5 := c_eq (x := (Int64.toInt ((a >>> (x_5_0.toInt64 &&& 63)) &&& 1))) (y := 0) rfl rfl c4
        have t6 : (Int32.toInt (x_5_0 + 1)) = (Int32.toInt x_5_0) + 1 := add_z rfl rfl (by omega) (by omega)
        exact ih _ _ ⟨by omega, by omega⟩ (by omega)
      · refine br0 c4 ?_
        have d7 := c_ne (x := (Int64.toInt ((a >>> (x_5_0.toInt64 &&& 63)) &&& 1))) (y := 0) rfl rfl c4
        refine ⟨vpi (x := (Int32.toInt x_5_0)) rfl (by omega) (by omega), ?_⟩
        have t8 : (Int32.toInt (x_5_0 + 1)) = (Int32.toInt x_5_0) + 1 := add_z rfl rfl (by omega) (by omega)
        have g9 : 0 ≤ (Int32.toInt (h0wf x_5_0.toNatClampNeg)) ∧ (Int32.toInt (h0wf x_5_0.toNatClampNeg)) ≤ 99 := WA.at_0 h_h0wf (tnz (x := (Int32.toInt x_5_0)) rfl (by omega)) (by omega) (by omega)
        exact ih _ _ ⟨by omega, by omega⟩ (by omega)
set_option maxRecDepth 100000 in
theorem s_X6_waterIn (a : Int64) (h0wf : Nat → Int32) (h_h0wf : WA h0wf) {Q : Int32 → Prop} (hq : ∀ (r : Int32), True → Q r) : wp_X6_waterIn a h0wf Q := by
  unfold wp_X6_waterIn
  have k3 : Int32.toInt 0 = 0 := rfl
  refine sl_X6_waterIn_5 a (h0wf) h_h0wf _ (fun x1_0 x1_1 X2 => ?_) 1000000000000 0 0 (by decide) (by omega)
  have j4 := X2
  exact hq _ trivial


set_option maxRecDepth 100000 in
theorem sl_X5_addFour_3 (a : Int32) (Qb : Int32 → Int32 → (Nat → Int32) → Prop) (KX : ∀ (x_3_0 : Int32) (x_3_1 : Int32) (x_3_2 : Nat → Int32), ((-8) ≤ x_3_0.toInt ∧ x_3_0.toInt ≤ (-1)) ∧ (0 ≤ x_3_1.toInt ∧ x_3_1.toInt ≤ 400) ∧ (BY x_3_2) → Qb x_3_0 x_3_1 x_3_2) : ∀ (n : Nat) (x_3_0 : Int32) (x_3_1 : Int32) (x_3_2 : Nat → Int32), ((-8) ≤ x_3_0.toInt ∧ x_3_0.toInt ≤ 24) ∧ (0 ≤ x_3_1.toInt ∧ x_3_1.toInt ≤ 400) ∧ (BY x_3_2) → x_3_0.toInt - (-9) < (n : Int) → wl_X5_addFour_3 a Qb n x_3_0 x_3_1 x_3_2 := by
  intro n
  induction n with
  | zero =>
    intro x_3_0 x_3_1 x_3_2 hI hm
    exfalso; have hm : x_3_0.toInt - (-9) < 0 := hm; omega
  | succ n ih =>
    intro x_3_0 x_3_1 x_3_2 hI hm
    have hm : x_3_0.toInt - (-9) < (n : Int) + 1 := by simpa using hm
    have h_x_3_0 := hI.1
    have h_x_3_1 := hI.2.1
    have h_x_3_2 := hI.2.2
    unfold wl_X5_addFour_3
    by_cases c1 : x_3_0 < 0
    · refine br1 c1 ?_
      have d2 := lt_z (x := (Int32.toInt x_3_0)) (y := 0) rfl rfl c1
      exact KX _ _ _ ⟨⟨by omega, by omega⟩, ⟨by omega, by omega⟩, h_x_3_2⟩
    · refine br0 c1 ?_
      have d3 := nlt_z (x := (Int32.toInt x_3_0)) (y := 0) rfl rfl c1
      by_cases c4 : 400 ≤ x_3_1
      · refine br1 c4 ?_
        have d5 := le_z (x := 400) (y := (Int32.toInt x_3_1)) rfl rfl c4
        have t6 : (Int32.toInt (x_3_0 + (-8))) = (Int32.toInt x_3_0) + (-8) := add_z rfl (by decide) (by omega) (by omega)
        exact ih _ _ _ ⟨⟨by omega, by omega⟩, ⟨by omega, by omega⟩, h_x_3_2⟩ (by omega)
      · refine br0 c4 ?_
        have d7 := nle_z (x := 400) (y := (Int32.toInt x_3_1)) rfl rfl c4
        refine ⟨vpi (x := (Int32.toInt x_3_1)) rfl (by omega) (by omega), ?_⟩
        have t8 : (Int32.toInt (x_3_0 + (-8))) = (Int32.toInt x_3_0) + (-8) := add_z rfl (by decide) (by omega) (by omega)
        have t9 : (Int32.toInt (x_3_1 + 1)) = (Int32.toInt x_3_1) + 1 := add_z rfl rfl (by omega) (by omega)
        have t10 : 0 ≤ (Int32.toInt ((a >>> (x_3_0 &&& 31)) &&& 255)) ∧ (Int32.toInt ((a >>> (x_3_0 &&& 31)) &&& 255)) ≤ 255 := and_z (by decide)
        have R11 : BY (upd x_3_2 x_3_1.toNatClampNeg ((a >>> (x_3_0 &&& 31)) &&& 255)) := BY.up_0 h_x_3_2 (tnz (x := (Int32.toInt x_3_1)) rfl (by omega)) (by omega) (by omega) (w := (Int32.toInt ((a >>> (x_3_0 &&& 31)) &&& 255))) rfl (by omega) (by omega)
        exact ih _ _ _ ⟨⟨by omega, by omega⟩, ⟨by omega, by omega⟩, R11⟩ (by omega)
set_option maxRecDepth 100000 in
theorem s_X5_addFour (a : Int32) (h0_length : Int32) (bf : Nat → Int32) (h_h0_length : 0 ≤ h0_length.toInt ∧ h0_length.toInt ≤ 400) (h_bf : BY bf) {Q : (Int32 × (Nat → Int32)) → Prop} (hq : ∀ (u_0 : Int32) (u_1 : Nat → Int32), (0 ≤ u_0.toInt ∧ u_0.toInt ≤ 400) ∧ (BY u_1) → Q (u_0, u_1)) : wp_X5_addFour a h0_length bf Q := by
  unfold wp_X5_addFour
  have k3 : Int32.toInt 24 = 24 := rfl
  refine sl_X5_addFour_3 a  _ (fun x1_0 x1_1 x1_2 X2 => ?_) 1000000000000 24 h0_length (bf) ⟨(by decide), ⟨by omega, by omega⟩, h_bf⟩ (by omega)
  have j4 := X2.1
  have j5 := X2.2.1
  have j6 := X2.2.2
  exact hq _ _ ⟨⟨by omega, by omega⟩, j6⟩


set_option maxRecDepth 100000 in
theorem s_X11_listener (a : Int32) (b : Int32) (f_h0_refusals : Nat → Int32) (h0_site_world_folk_listeners : Int32) (f_h0_site_world_folk_column : Nat → Int32) (f_h0_site_world_folk_ear : Nat → Int32) (h0_site_diary_kept : Int32) (h_h0_site_world_folk_listeners : 0 ≤ h0_site_world_folk_listeners.toInt ∧ h0_site_world_folk_listeners.toInt ≤ 5) (h_f_h0_site_world_folk_column : CO f_h0_site_world_folk_column) (h_f_h0_site_world_folk_ear : EA f_h0_site_world_folk_ear) (h_h0_site_diary_kept : 0 ≤ h0_site_diary_kept.toInt ∧ h0_site_diary_kept.toInt ≤ 16) {Q : Int32 → (Int32 × (Nat → Int32) × Int32 × (Nat → Int32) × (Nat → Int32) × Int32) → Prop} (hq : ∀ (r : Int32) (u_0 : Int32) (u_1 : Nat → Int32) (u_2 : Int32) (u_3 : Nat → Int32) (u_4 : Nat → Int32) (u_5 : Int32), (0 ≤ u_2.toInt ∧ u_2.toInt ≤ 5) ∧ (CO u_3) ∧ (EA u_4) ∧ (0 ≤ u_5.toInt ∧ u_5.toInt ≤ 16) → Q r (u_0, u_1, u_2, u_3, u_4, u_5)) : wp_X11_listener a b f_h0_refusals h0_site_world_folk_listeners f_h0_site_world_folk_column f_h0_site_world_folk_ear h0_site_diary_kept Q := by
  unfold wp_X11_listener
  refine o_X11_isWithin _ _ _ ?_
  by_cases c1 : a < 0
  · refine br1 c1 ?_
    have d2 := lt_z (x := (Int32.toInt a)) (y := 0) rfl rfl c1
    refine br1 (by decide) ?_
    refine o_X11_settle _ _ _ ?_
    refine jn_s ?_
    refine br0 (by decide) ?_
    refine br0 (by decide) ?_
    refine br0 (by decide) ?_
    refine ⟨by unfold vp_in; decide, ?_⟩
    refine ⟨by unfold vp_in; decide, ?_⟩
    refine un2_i ?_
    exact hq _ _ _ _ _ _ _ ⟨⟨by omega, by omega⟩, h_f_h0_site_world_folk_column, h_f_h0_site_world_folk_ear, ⟨by omega, by omega⟩⟩
  · refine br0 c1 ?_
    have d3 := nlt_z (x := (Int32.toInt a)) (y := 0) rfl rfl c1
    by_cases c4 : 8 ≤ a
    · refine br1 c4 ?_
      have d5 := le_z (x := 8) (y := (Int32.toInt a)) rfl rfl c4
      refine br1 (by decide) ?_
      refine o_X11_settle _ _ _ ?_
      refine jn_s ?_
      refine br0 (by decide) ?_
      refine br0 (by decide) ?_
      refine br0 (by decide) ?_
      refine ⟨by unfold vp_in; decide, ?_⟩
      refine ⟨by unfold vp_in; decide, ?_⟩
      refine un2_i ?_
      exact hq _ _ _ _ _ _ _ ⟨⟨by omega, by omega⟩, h_f_h0_site_world_folk_column, h_f_h0_site_world_folk_ear, ⟨by omega, by omega⟩⟩
    · refine br0 c4 ?_
      have d6 := nle_z (x := 8) (y := (Int32.toInt a)) rfl rfl c4
      refine br0 (by decide) ?_
      refine o_X11_isWithin _ _ _ ?_
      by_cases c7 : b < 0
      · refine br1 c7 ?_
        have d8 := lt_z (x := (Int32.toInt b)) (y := 0) rfl rfl c7
        refine br1 (by decide) ?_
        refine o_X11_settle _ _ _ ?_
        refine jn_s ?_
        refine br0 (by decide) ?_
        refine br0 (by decide) ?_
        refine br0 (by decide) ?_
        refine ⟨by unfold vp_in; decide, ?_⟩
        refine ⟨by unfold vp_in; decide, ?_⟩
        refine un2_i ?_
        exact hq _ _ _ _ _ _ _ ⟨⟨by omega, by omega⟩, h_f_h0_site_world_folk_column, h_f_h0_site_world_folk_ear, ⟨by omega, by omega⟩⟩
      · refine br0 c7 ?_
        have d9 := nlt_z (x := (Int32.toInt b)) (y := 0) rfl rfl c7
        by_cases c10 : 21 ≤ b
        · refine br1 c10 ?_
          have d11 := le_z (x := 21) (y := (Int32.toInt b)) rfl rfl c10
          refine br1 (by decide) ?_
          refine o_X11_settle _ _ _ ?_
          refine jn_s ?_
          refine br0 (by decide) ?_
          refine br0 (by decide) ?_
          refine br0 (by decide) ?_
          refine ⟨by unfold vp_in; decide, ?_⟩
          refine ⟨by unfold vp_in; decide, ?_⟩
          refine un2_i ?_
          exact hq _ _ _ _ _ _ _ ⟨⟨by omega, by omega⟩, h_f_h0_site_world_folk_column, h_f_h0_site_world_folk_ear, ⟨by omega, by omega⟩⟩
        · refine br0 c10 ?_
          have d12 := nle_z (x := 21) (y := (Int32.toInt b)) rfl rfl c10
          refine br0 (by decide) ?_
          by_cases c13 : h0_site_world_folk_listeners < 5
          · refine br1 c13 ?_
            have d14 := lt_z (x := (Int32.toInt h0_site_world_folk_listeners)) (y := 5) rfl rfl c13
            refine s_X4_addListener a b h0_site_world_folk_listeners (f_h0_site_world_folk_column) (f_h0_site_world_folk_ear) ⟨by omega, by omega⟩ ⟨by omega, by omega⟩ ⟨by omega, by omega⟩ h_f_h0_site_world_folk_column h_f_h0_site_world_folk_ear (fun u15_0 u15_1 u15_2 H16 => ?_)
            have j17 := H16.1
            have j18 := H16.2.1
            have j19 := H16.2.2
            refine un3_i ?_
            refine o_X2_clear _ ?_
            refine o_X11_settle _ _ _ ?_
            refine jn_s ?_
            by_cases c20 : 0 ≤ (u15_0 - 1)
            · refine br1 c20 ?_
              have t21 : (Int32.toInt (u15_0 - 1)) = (Int32.toInt u15_0) - 1 := sub_z rfl rfl (by omega) (by omega)
              have d22 := le_z (x := 0) (y := (Int32.toInt (u15_0 - 1))) rfl rfl c20
              refine br1 (z_le (x := 0) (y := (Int32.toInt (u15_0 - 1))) rfl rfl (by omega)) ?_
              refine un2_i ?_
              exact hq _ _ _ _ _ _ _ ⟨⟨by omega, by omega⟩, j18, j19, (by decide)⟩
            · refine br0 c20 ?_
              have t23 : (Int32.toInt (u15_0 - 1)) = (Int32.toInt u15_0) - 1 := sub_z rfl rfl (by omega) (by omega)
              have d24 := nle_z (x := 0) (y := (Int32.toInt (u15_0 - 1))) rfl rfl c20
              refine br0 (z_nle (x := 0) (y := (Int32.toInt (u15_0 - 1))) rfl rfl (by omega)) ?_
              have t25 : (Int32.toInt (-(u15_0 - 1))) = - (Int32.toInt (u15_0 - 1)) := neg_z rfl (by omega) (by omega)
              refine br0 (z_nle (x := 7) (y := (Int32.toInt (-(u15_0 - 1)))) rfl rfl (by omega)) ?_
              refine ⟨vpi (x := (Int32.toInt (-(u15_0 - 1)))) rfl (by omega) (by omega), ?_⟩
              refine ⟨vpi (x := (Int32.toInt (-(u15_0 - 1)))) rfl (by omega) (by omega), ?_⟩
              refine un2_i ?_
              exact hq _ _ _ _ _ _ _ ⟨⟨by omega, by omega⟩, j18, j19, (by decide)⟩
          · refine br0 c13 ?_
            have d26 := nlt_z (x := (Int32.toInt h0_site_world_folk_listeners)) (y := 5) rfl rfl c13
            refine o_X11_settle _ _ _ ?_
            refine jn_s ?_
            refine br0 (by decide) ?_
            refine br0 (by decide) ?_
            refine br0 (by decide) ?_
            refine ⟨by unfold vp_in; decide, ?_⟩
            refine ⟨by unfold vp_in; decide, ?_⟩
            refine un2_i ?_
            exact hq _ _ _ _ _ _ _ ⟨⟨by omega, by omega⟩, h_f_h0_site_world_folk_column, h_f_h0_site_world_folk_ear, ⟨by omega, by omega⟩⟩


set_option maxRecDepth 100000 in
theorem s_X11_noise (a : Int32) (b : Int32) (f_h0_refusals : Nat → Int32) (h0_site_world_folk_noises : Int32) (f_h0_site_world_folk_noiseColumn : Nat → Int32) (f_h0_site_world_folk_noiseLoud : Nat → Int32) (h0_site_diary_kept : Int32) (h_h0_site_world_folk_noises : 0 ≤ h0_site_world_folk_noises.toInt ∧ h0_site_world_folk_noises.toInt ≤ 6) (h_f_h0_site_world_folk_noiseColumn : NC f_h0_site_world_folk_noiseColumn) (h_f_h0_site_world_folk_noiseLoud : NL f_h0_site_world_folk_noiseLoud) (h_h0_site_diary_kept : 0 ≤ h0_site_diary_kept.toInt ∧ h0_site_diary_kept.toInt ≤ 16) {Q : Int32 → (Int32 × (Nat → Int32) × Int32 × (Nat → Int32) × (Nat → Int32) × Int32) → Prop} (hq : ∀ (r : Int32) (u_0 : Int32) (u_1 : Nat → Int32) (u_2 : Int32) (u_3 : Nat → Int32) (u_4 : Nat → Int32) (u_5 : Int32), (0 ≤ u_2.toInt ∧ u_2.toInt ≤ 6) ∧ (NC u_3) ∧ (NL u_4) ∧ (0 ≤ u_5.toInt ∧ u_5.toInt ≤ 16) → Q r (u_0, u_1, u_2, u_3, u_4, u_5)) : wp_X11_noise a b f_h0_refusals h0_site_world_folk_noises f_h0_site_world_folk_noiseColumn f_h0_site_world_folk_noiseLoud h0_site_diary_kept Q := by
  unfold wp_X11_noise
  refine o_X11_isWithin _ _ _ ?_
  by_cases c1 : a < 0
  · refine br1 c1 ?_
    have d2 := lt_z (x := (Int32.toInt a)) (y := 0) rfl rfl c1
    refine br1 (by decide) ?_
    refine o_X11_settle _ _ _ ?_
    refine jn_s ?_
    refine br0 (by decide) ?_
    refine br0 (by decide) ?_
    refine br0 (by decide) ?_
    refine ⟨by unfold vp_in; decide, ?_⟩
    refine ⟨by unfold vp_in; decide, ?_⟩
    refine un2_i ?_
    exact hq _ _ _ _ _ _ _ ⟨⟨by omega, by omega⟩, h_f_h0_site_world_folk_noiseColumn, h_f_h0_site_world_folk_noiseLoud, ⟨by omega, by omega⟩⟩
  · refine br0 c1 ?_
    have d3 := nlt_z (x := (Int32.toInt a)) (y := 0) rfl rfl c1
    by_cases c4 : 8 ≤ a
    · refine br1 c4 ?_
      have d5 := le_z (x := 8) (y := (Int32.toInt a)) rfl rfl c4
      refine br1 (by decide) ?_
      refine o_X11_settle _ _ _ ?_
      refine jn_s ?_
      refine br0 (by decide) ?_
      refine br0 (by decide) ?_
      refine br0 (by decide) ?_
      refine ⟨by unfold vp_in; decide, ?_⟩
      refine ⟨by unfold vp_in; decide, ?_⟩
      refine un2_i ?_
      exact hq _ _ _ _ _ _ _ ⟨⟨by omega, by omega⟩, h_f_h0_site_world_folk_noiseColumn, h_f_h0_site_world_folk_noiseLoud, ⟨by omega, by omega⟩⟩
    · refine br0 c4 ?_
      have d6 := nle_z (x := 8) (y := (Int32.toInt a)) rfl rfl c4
      refine br0 (by decide) ?_
      refine o_X11_isWithin _ _ _ ?_
      by_cases c7 : b < 0
      · refine br1 c7 ?_
        have d8 := lt_z (x := (Int32.toInt b)) (y := 0) rfl rfl c7
        refine br1 (by decide) ?_
        refine o_X11_settle _ _ _ ?_
        refine jn_s ?_
        refine br0 (by decide) ?_
        refine br0 (by decide) ?_
        refine br0 (by decide) ?_
        refine ⟨by unfold vp_in; decide, ?_⟩
        refine ⟨by unfold vp_in; decide, ?_⟩
        refine un2_i ?_
        exact hq _ _ _ _ _ _ _ ⟨⟨by omega, by omega⟩, h_f_h0_site_world_folk_noiseColumn, h_f_h0_site_world_folk_noiseLoud, ⟨by omega, by omega⟩⟩
      · refine br0 c7 ?_
        have d9 := nlt_z (x := (Int32.toInt b)) (y := 0) rfl rfl c7
        by_cases c10 : 21 ≤ b
        · refine br1 c10 ?_
          have d11 := le_z (x := 21) (y := (Int32.toInt b)) rfl rfl c10
          refine br1 (by decide) ?_
          refine o_X11_settle _ _ _ ?_
          refine jn_s ?_
          refine br0 (by decide) ?_
          refine br0 (by decide) ?_
          refine br0 (by decide) ?_
          refine ⟨by unfold vp_in; decide, ?_⟩
          refine ⟨by unfold vp_in; decide, ?_⟩
          refine un2_i ?_
          exact hq _ _ _ _ _ _ _ ⟨⟨by omega, by omega⟩, h_f_h0_site_world_folk_noiseColumn, h_f_h0_site_world_folk_noiseLoud, ⟨by omega, by omega⟩⟩
        · refine br0 c10 ?_
          have d12 := nle_z (x := 21) (y := (Int32.toInt b)) rfl rfl c10
          refine br0 (by decide) ?_
          by_cases c13 : h0_site_world_folk_noises < 6
          · refine br1 c13 ?_
            have d14 := lt_z (x := (Int32.toInt h0_site_world_folk_noises)) (y := 6) rfl rfl c13
            refine s_X4_addNoise a b h0_site_world_folk_noises (f_h0_site_world_folk_noiseColumn) (f_h0_site_world_folk_noiseLoud) ⟨by omega, by omega⟩ ⟨by omega, by omega⟩ ⟨by omega, by omega⟩ h_f_h0_site_world_folk_noiseColumn h_f_h0_site_world_folk_noiseLoud (fun u15_0 u15_1 u15_2 H16 => ?_)
            have j17 := H16.1
            have j18 := H16.2.1
            have j19 := H16.2.2
            refine un3_i ?_
            refine o_X2_clear _ ?_
            refine o_X11_settle _ _ _ ?_
            refine jn_s ?_
            by_cases c20 : 0 ≤ (u15_0 - 1)
            · refine br1 c20 ?_
              have t21 : (Int32.toInt (u15_0 - 1)) = (Int32.toInt u15_0) - 1 := sub_z rfl rfl (by omega) (by omega)
              have d22 := le_z (x := 0) (y := (Int32.toInt (u15_0 - 1))) rfl rfl c20
              refine br1 (z_le (x := 0) (y := (Int32.toInt (u15_0 - 1))) rfl rfl (by omega)) ?_
              refine un2_i ?_
              exact hq _ _ _ _ _ _ _ ⟨⟨by omega, by omega⟩, j18, j19, (by decide)⟩
            · refine br0 c20 ?_
              have t23 : (Int32.toInt (u15_0 - 1)) = (Int32.toInt u15_0) - 1 := sub_z rfl rfl (by omega) (by omega)
              have d24 := nle_z (x := 0) (y := (Int32.toInt (u15_0 - 1))) rfl rfl c20
              refine br0 (z_nle (x := 0) (y := (Int32.toInt (u15_0 - 1))) rfl rfl (by omega)) ?_
              have t25 : (Int32.toInt (-(u15_0 - 1))) = - (Int32.toInt (u15_0 - 1)) := neg_z rfl (by omega) (by omega)
              refine br0 (z_nle (x := 7) (y := (Int32.toInt (-(u15_0 - 1)))) rfl rfl (by omega)) ?_
              refine ⟨vpi (x := (Int32.toInt (-(u15_0 - 1)))) rfl (by omega) (by omega), ?_⟩
              refine ⟨vpi (x := (Int32.toInt (-(u15_0 - 1)))) rfl (by omega) (by omega), ?_⟩
              refine un2_i ?_
              exact hq _ _ _ _ _ _ _ ⟨⟨by omega, by omega⟩, j18, j19, (by decide)⟩
          · refine br0 c13 ?_
            have d26 := nlt_z (x := (Int32.toInt h0_site_world_folk_noises)) (y := 6) rfl rfl c13
            refine o_X11_settle _ _ _ ?_
            refine jn_s ?_
            refine br0 (by decide) ?_
            refine br0 (by decide) ?_
            refine br0 (by decide) ?_
            refine ⟨by unfold vp_in; decide, ?_⟩
            refine ⟨by unfold vp_in; decide, ?_⟩
            refine un2_i ?_
            exact hq _ _ _ _ _ _ _ ⟨⟨by omega, by omega⟩, h_f_h0_site_world_folk_noiseColumn, h_f_h0_site_world_folk_noiseLoud, ⟨by omega, by omega⟩⟩


set_option maxRecDepth 100000 in
theorem s_X11_who (a : Int32) (b : Int32) (h0_site_world_folk_listeners : Int32) (h0_site_world_folk_noises : Int32) (h0_site_world_folk_hushed : Int32) (f_h0_site_world_folk_column : Nat → Int32) (f_h0_site_world_folk_ear : Nat → Int32) (f_h0_site_world_folk_noiseColumn : Nat → Int32) (f_h0_site_world_folk_noiseLoud : Nat → Int32) (h_h0_site_world_folk_listeners : 0 ≤ h0_site_world_folk_listeners.toInt ∧ h0_site_world_folk_listeners.toInt ≤ 5) (h_h0_site_world_folk_noises : 0 ≤ h0_site_world_folk_noises.toInt ∧ h0_site_world_folk_noises.toInt ≤ 6) (h_f_h0_site_world_folk_column : CO f_h0_site_world_folk_column) (h_f_h0_site_world_folk_ear : EA f_h0_site_world_folk_ear) (h_f_h0_site_world_folk_noiseColumn : NC f_h0_site_world_folk_noiseColumn) (h_f_h0_site_world_folk_noiseLoud : NL f_h0_site_world_folk_noiseLoud) {Q : Int32 → Prop} (hq : ∀ (r : Int32), True → Q r) : wp_X11_who a b h0_site_world_folk_listeners h0_site_world_folk_noises h0_site_world_folk_hushed f_h0_site_world_folk_column f_h0_site_world_folk_ear f_h0_site_world_folk_noiseColumn f_h0_site_world_folk_noiseLoud Q := by
  unfold wp_X11_who
  refine jn_s ?_
  by_cases c1 : b = 0
  · refine br1 c1 ?_
    have d2 := eq_z (x := (Int32.toInt b)) (y := 0) rfl rfl c1
    refine jn_s ?_
    refine br0 (by decide) ?_
    refine o_X11_isWithin _ _ _ ?_
    by_cases c3 : a < 0
    · refine br1 c3 ?_
      have d4 := lt_z (x := (Int32.toInt a)) (y := 0) rfl rfl c3
      refine br1 (by decide) ?_
      exact hq _ trivial
    · refine br0 c3 ?_
      have d5 := nlt_z (x := (Int32.toInt a)) (y := 0) rfl rfl c3
      by_cases c6 : h0_site_world_folk_listeners ≤ a
      · refine br1 c6 ?_
        have d7 := le_z (x := (Int32.toInt h0_site_world_folk_listeners)) (y := (Int32.toInt a)) rfl rfl c6
        refine br1 (by decide) ?_
        exact hq _ trivial
      · refine br0 c6 ?_
        have d8 := nle_z (x := (Int32.toInt h0_site_world_folk_listeners)) (y := (Int32.toInt a)) rfl rfl c6
        refine br0 (by decide) ?_
        refine br1 (z_eq (x := (Int32.toInt b)) (y := 0) rfl rfl (by omega)) ?_
        refine ⟨vpi (x := (Int32.toInt a)) rfl (by omega) (by omega), ?_⟩
        have g9 : 0 ≤ (Int32.toInt (f_h0_site_world_folk_column a.toNatClampNeg)) ∧ (Int32.toInt (f_h0_site_world_folk_column a.toNatClampNeg)) ≤ 7 := CO.at_0 h_f_h0_site_world_folk_column (tnz (x := (Int32.toInt a)) rfl (by omega)) (by omega) (by omega)
        exact hq _ trivial
  · refine br0 c1 ?_
    have d10 := ne_z (x := (Int32.toInt b)) (y := 0) rfl rfl c1
    by_cases c11 : b = 1
    · refine br1 c11 ?_
      have d12 := eq_z (x := (Int32.toInt b)) (y := 1) rfl rfl c11
      refine jn_s ?_
      refine br0 (by decide) ?_
      refine o_X11_isWithin _ _ _ ?_
      by_cases c13 : a < 0
      · refine br1 c13 ?_
        have d14 := lt_z (x := (Int32.toInt a)) (y := 0) rfl rfl c13
        refine br1 (by decide) ?_
        exact hq _ trivial
      · refine br0 c13 ?_
        have d15 := nlt_z (x := (Int32.toInt a)) (y := 0) rfl rfl c13
        by_cases c16 : h0_site_world_folk_listeners ≤ a
        · refine br1 c16 ?_
          have d17 := le_z (x := (Int32.toInt h0_site_world_folk_listeners)) (y := (Int32.toInt a)) rfl rfl c16
          refine br1 (by decide) ?_
          exact hq _ trivial
        · refine br0 c16 ?_
          have d18 := nle_z (x := (Int32.toInt h0_site_world_folk_listeners)) (y := (Int32.toInt a)) rfl rfl c16
          refine br0 (by decide) ?_
          refine br0 (z_ne (x := (Int32.toInt b)) (y := 0) rfl rfl (by omega)) ?_
          refine br1 (z_eq (x := (Int32.toInt b)) (y := 1) rfl rfl (by omega)) ?_
          refine ⟨vpi (x := (Int32.toInt a)) rfl (by omega) (by omega), ?_⟩
          have g19 : 0 ≤ (Int32.toInt (f_h0_site_world_folk_ear a.toNatClampNeg)) ∧ (Int32.toInt (f_h0_site_world_folk_ear a.toNatClampNeg)) ≤ 20 := EA.at_0 h_f_h0_site_world_folk_ear (tnz (x := (Int32.toInt a)) rfl (by omega)) (by omega) (by omega)
          exact hq _ trivial
    · refine br0 c11 ?_
      have d20 := ne_z (x := (Int32.toInt b)) (y := 1) rfl rfl c11
      refine jn_s ?_
      refine br1 (by decide) ?_
      refine o_X11_isWithin _ _ _ ?_
      by_cases c21 : a < 0
      · refine br1 c21 ?_
        have d22 := lt_z (x := (Int32.toInt a)) (y := 0) rfl rfl c21
        refine br1 (by decide) ?_
        exact hq _ trivial
      · refine br0 c21 ?_
        have d23 := nlt_z (x := (Int32.toInt a)) (y := 0) rfl rfl c21
        by_cases c24 : h0_site_world_folk_noises ≤ a
        · refine br1 c24 ?_
          have d25 := le_z (x := (Int32.toInt h0_site_world_folk_noises)) (y := (Int32.toInt a)) rfl rfl c24
          refine br1 (by decide) ?_
          exact hq _ trivial
        · refine br0 c24 ?_
          have d26 := nle_z (x := (Int32.toInt h0_site_world_folk_noises)) (y := (Int32.toInt a)) rfl rfl c24
          refine br0 (by decide) ?_
          by_cases c27 : b = 0
          · refine br1 c27 ?_
            have d28 := eq_z (x := (Int32.toInt b)) (y := 0) rfl rfl c27
            refine ⟨vpi (x := (Int32.toInt a)) rfl (by omega) (by omega), ?_⟩
            have g29 : 0 ≤ (Int32.toInt (f_h0_site_world_folk_column a.toNatClampNeg)) ∧ (Int32.toInt (f_h0_site_world_folk_column a.toNatClampNeg)) ≤ 7 := CO.at_0 h_f_h0_site_world_folk_column (tnz (x := (Int32.toInt a)) rfl (by omega)) (by omega) (by omega)
            exact hq _ trivial
          · refine br0 c27 ?_
            have d30 := ne_z (x := (Int32.toInt b)) (y := 0) rfl rfl c27
            by_cases c31 : b = 1
            · refine br1 c31 ?_
              have d32 := eq_z (x := (Int32.toInt b)) (y := 1) rfl rfl c31
              refine ⟨vpi (x := (Int32.toInt a)) rfl (by omega) (by omega), ?_⟩
              have g33 : 0 ≤ (Int32.toInt (f_h0_site_world_folk_ear a.toNatClampNeg)) ∧ (Int32.toInt (f_h0_site_world_folk_ear a.toNatClampNeg)) ≤ 20 := EA.at_0 h_f_h0_site_world_folk_ear (tnz (x := (Int32.toInt a)) rfl (by omega)) (by omega) (by omega)
              exact hq _ trivial
            · refine br0 c31 ?_
              have d34 := ne_z (x := (Int32.toInt b)) (y := 1) rfl rfl c31
              by_cases c35 : b = 2
              · refine br1 c35 ?_
                have d36 := eq_z (x := (Int32.toInt b)) (y := 2) rfl rfl c35
                refine ⟨vpi (x := (Int32.toInt a)) rfl (by omega) (by omega), ?_⟩
                have g37 : 0 ≤ (Int32.toInt (f_h0_site_world_folk_noiseColumn a.toNatClampNeg)) ∧ (Int32.toInt (f_h0_site_world_folk_noiseColumn a.toNatClampNeg)) ≤ 7 := NC.at_0 h_f_h0_site_world_folk_noiseColumn (tnz (x := (Int32.toInt a)) rfl (by omega)) (by omega) (by omega)
                exact hq _ trivial
              · refine br0 c35 ?_
                have d38 := ne_z (x := (Int32.toInt b)) (y := 2) rfl rfl c35
                by_cases c39 : b = 3
                · refine br1 c39 ?_
                  have d40 := eq_z (x := (Int32.toInt b)) (y := 3) rfl rfl c39
                  refine ⟨vpi (x := (Int32.toInt a)) rfl (by omega) (by omega), ?_⟩
                  have g41 : 0 ≤ (Int32.toInt (f_h0_site_world_folk_noiseLoud a.toNatClampNeg)) ∧ (Int32.toInt (f_h0_site_world_folk_noiseLoud a.toNatClampNeg)) ≤ 20 := NL.at_0 h_f_h0_site_world_folk_noiseLoud (tnz (x := (Int32.toInt a)) rfl (by omega)) (by omega) (by omega)
                  exact hq _ trivial
                · refine br0 c39 ?_
                  have d42 := ne_z (x := (Int32.toInt b)) (y := 3) rfl rfl c39
                  by_cases c43 : b = 4
                  · refine br1 c43 ?_
                    have d44 := eq_z (x := (Int32.toInt b)) (y := 4) rfl rfl c43
                    have t45 : 0 ≤ (Int32.toInt ((h0_site_world_folk_hushed >>> (a &&& 31)) &&& 1)) ∧ (Int32.toInt ((h0_site_world_folk_hushed >>> (a &&& 31)) &&& 1)) ≤ 1 := and_z (by decide)
                    exact hq _ trivial
                  · refine br0 c43 ?_
                    have d46 := ne_z (x := (Int32.toInt b)) (y := 4) rfl rfl c43
                    exact hq _ trivial


set_option maxRecDepth 100000 in
theorem s_X11_feed (a : Int32) (b : Int32) (d : Int32) (g : Int32) (k : Int32) (h0_reader_length : Int32) (f_h0_reader_bytes : Nat → Int32) (h_h0_reader_length : 0 ≤ h0_reader_length.toInt ∧ h0_reader_length.toInt ≤ 400) (h_f_h0_reader_bytes : BY f_h0_reader_bytes) {Q : Int32 → (Int32 × (Nat → Int32)) → Prop} (hq : ∀ (r : Int32) (u_0 : Int32) (u_1 : Nat → Int32), (0 ≤ u_0.toInt ∧ u_0.toInt ≤ 400) ∧ (BY u_1) → Q r (u_0, u_1)) : wp_X11_feed a b d g k h0_reader_length f_h0_reader_bytes Q := by
  unfold wp_X11_feed
  by_cases c1 : (h0_reader_length + 20) ≤ 400
  · refine br1 c1 ?_
    have t2 : (Int32.toInt (h0_reader_length + 20)) = (Int32.toInt h0_reader_length) + 20 := add_z rfl rfl (by omega) (by omega)
    have d3 := le_z (x := (Int32.toInt (h0_reader_length + 20))) (y := 400) rfl rfl c1
    refine s_X5_addFour a h0_reader_length (f_h0_reader_bytes) ⟨by omega, by omega⟩ h_f_h0_reader_bytes (fun u4_0 u4_1 H5 => ?_)
    have j6 := H5.1
    have j7 := H5.2
    refine un2_i ?_
    refine s_X5_addFour b u4_0 (u4_1) ⟨by omega, by omega⟩ j7 (fun u8_0 u8_1 H9 => ?_)
    have j10 := H9.1
    have j11 := H9.2
    refine un2_i ?_
    refine s_X5_addFour d u8_0 (u8_1) ⟨by omega, by omega⟩ j11 (fun u12_0 u12_1 H13 => ?_)
    have j14 := H13.1
    have j15 := H13.2
    refine un2_i ?_
    refine s_X5_addFour g u12_0 (u12_1) ⟨by omega, by omega⟩ j15 (fun u16_0 u16_1 H17 => ?_)
    have j18 := H17.1
    have j19 := H17.2
    refine un2_i ?_
    refine s_X5_addFour k u16_0 (u16_1) ⟨by omega, by omega⟩ j19 (fun u20_0 u20_1 H21 => ?_)
    have j22 := H21.1
    have j23 := H21.2
    refine un2_i ?_
    exact hq _ _ _ ⟨⟨by omega, by omega⟩, j23⟩
  · refine br0 c1 ?_
    have t24 : (Int32.toInt (h0_reader_length + 20)) = (Int32.toInt h0_reader_length) + 20 := add_z rfl rfl (by omega) (by omega)
    have d25 := nle_z (x := (Int32.toInt (h0_reader_length + 20))) (y := 400) rfl rfl c1
    exact hq _ _ _ ⟨⟨by omega, by omega⟩, h_f_h0_reader_bytes⟩


set_option maxRecDepth 100000 in
theorem s_X11_end (a : Int32) (h0_reader_length : Int32) (h_h0_reader_length : 0 ≤ h0_reader_length.toInt ∧ h0_reader_length.toInt ≤ 400) {Q : Int32 → Int32 → Prop} (hq : ∀ (r : Int32) (u : Int32), (0 ≤ u.toInt ∧ u.toInt ≤ 400) → Q r u) : wp_X11_end a h0_reader_length Q := by
  unfold wp_X11_end
  by_cases c1 : a < 0
  · refine br1 c1 ?_
    have d2 := lt_z (x := (Int32.toInt a)) (y := 0) rfl rfl c1
    exact hq _ _ ⟨by omega, by omega⟩
  · refine br0 c1 ?_
    have d3 := nlt_z (x := (Int32.toInt a)) (y := 0) rfl rfl c1
    by_cases c4 : a ≤ h0_reader_length
    · refine br1 c4 ?_
      have d5 := le_z (x := (Int32.toInt a)) (y := (Int32.toInt h0_reader_length)) rfl rfl c4
      exact hq _ _ ⟨by omega, by omega⟩
    · refine br0 c4 ?_
      have d6 := nle_z (x := (Int32.toInt a)) (y := (Int32.toInt h0_reader_length)) rfl rfl c4
      exact hq _ _ ⟨by omega, by omega⟩


set_option maxRecDepth 100000 in
theorem s_X11_mud (h0_latestMud : Int32) {Q : Int32 → Prop} (hq : ∀ (r : Int32), True → Q r) : wp_X11_mud h0_latestMud Q := by
  unfold wp_X11_mud
  exact hq _ trivial


set_option maxRecDepth 100000 in
theorem s_X11_fault (h0_reader_faultPlace : Int32) {Q : Int32 → Prop} (hq : ∀ (r : Int32), True → Q r) : wp_X11_fault h0_reader_faultPlace Q := by
  unfold wp_X11_fault
  exact hq _ trivial


set_option maxRecDepth 100000 in
theorem s_X11_stopped (h0_stoppedAt : Int32) {Q : Int32 → Prop} (hq : ∀ (r : Int32), True → Q r) : wp_X11_stopped h0_stoppedAt Q := by
  unfold wp_X11_stopped
  exact hq _ trivial


set_option maxRecDepth 100000 in
theorem s_X11_force (a : Int32) (h0_site_world_lawCount : Int32) (h0_site_world_force : Int32) (f_h0_refusals : Nat → Int32) (h_h0_site_world_lawCount : 0 ≤ h0_site_world_lawCount.toInt ∧ h0_site_world_lawCount.toInt ≤ 6) (h_h0_site_world_force : (-1) ≤ h0_site_world_force.toInt ∧ h0_site_world_force.toInt ≤ 5) {Q : Int32 → (Int32 × Int32 × (Nat → Int32)) → Prop} (hq : ∀ (r : Int32) (u_0 : Int32) (u_1 : Int32) (u_2 : Nat → Int32), ((-1) ≤ u_1.toInt ∧ u_1.toInt ≤ 5) → Q r (u_0, u_1, u_2)) : wp_X11_force a h0_site_world_lawCount h0_site_world_force f_h0_refusals Q := by
  unfold wp_X11_force
  refine o_X10_hasLaw _ _ _ ?_
  by_cases c1 : a < (-1)
  · refine br1 c1 ?_
    have d2 := lt_z (x := (Int32.toInt a)) (y := (-1)) rfl (by decide) c1
    refine br1 (by decide) ?_
    refine o_X11_settle _ _ _ ?_
    refine jn_s ?_
    refine br0 (by decide) ?_
    refine br0 (by decide) ?_
    refine br0 (by decide) ?_
    refine ⟨by unfold vp_in; decide, ?_⟩
    refine ⟨by unfold vp_in; decide, ?_⟩
    refine un2_i ?_
    exact hq _ _ _ _ ⟨by omega, by omega⟩
  · refine br0 c1 ?_
    have d3 := nlt_z (x := (Int32.toInt a)) (y := (-1)) rfl (by decide) c1
    by_cases c4 : h0_site_world_lawCount ≤ a
    · refine br1 c4 ?_
      have d5 := le_z (x := (Int32.toInt h0_site_world_lawCount)) (y := (Int32.toInt a)) rfl rfl c4
      refine br1 (by decide) ?_
      refine o_X11_settle _ _ _ ?_
      refine jn_s ?_
      refine br0 (by decide) ?_
      refine br0 (by decide) ?_
      refine br0 (by decide) ?_
      refine ⟨by unfold vp_in; decide, ?_⟩
      refine ⟨by unfold vp_in; decide, ?_⟩
      refine un2_i ?_
      exact hq _ _ _ _ ⟨by omega, by omega⟩
    · refine br0 c4 ?_
      have d6 := nle_z (x := (Int32.toInt h0_site_world_lawCount)) (y := (Int32.toInt a)) rfl rfl c4
      refine br0 (by decide) ?_
      exact hq _ _ _ _ ⟨by omega, by omega⟩


set_option maxRecDepth 100000 in
theorem s_X11_din (a : Int32) (h0_site_world_folk_noises : Int32) (h0_site_world_folk_hushed : Int32) (f_h0_site_world_folk_noiseColumn : Nat → Int32) (f_h0_site_world_folk_noiseLoud : Nat → Int32) (h_h0_site_world_folk_noises : 0 ≤ h0_site_world_folk_noises.toInt ∧ h0_site_world_folk_noises.toInt ≤ 6) (h_f_h0_site_world_folk_noiseColumn : NC f_h0_site_world_folk_noiseColumn) (h_f_h0_site_world_folk_noiseLoud : NL f_h0_site_world_folk_noiseLoud) {Q : Int32 → Prop} (hq : ∀ (r : Int32), True → Q r) : wp_X11_din a h0_site_world_folk_noises h0_site_world_folk_hushed f_h0_site_world_folk_noiseColumn f_h0_site_world_folk_noiseLoud Q := by
  unfold wp_X11_din
  refine o_X11_isWithin _ _ _ ?_
  by_cases c1 : a < 0
  · refine br1 c1 ?_
    have d2 := lt_z (x := (Int32.toInt a)) (y := 0) rfl rfl c1
    refine br1 (by decide) ?_
    exact hq _ trivial
  · refine br0 c1 ?_
    have d3 := nlt_z (x := (Int32.toInt a)) (y := 0) rfl rfl c1
    by_cases c4 : 8 ≤ a
    · refine br1 c4 ?_
      have d5 := le_z (x := 8) (y := (Int32.toInt a)) rfl rfl c4
      refine br1 (by decide) ?_
      exact hq _ trivial
    · refine br0 c4 ?_
      have d6 := nle_z (x := 8) (y := (Int32.toInt a)) rfl rfl c4
      refine br0 (by decide) ?_
      refine s_X4_noiseIn a 0 h0_site_world_folk_noises h0_site_world_folk_hushed (f_h0_site_world_folk_noiseColumn) (f_h0_site_world_folk_noiseLoud) ⟨by omega, by omega⟩ ⟨by omega, by omega⟩ h_f_h0_site_world_folk_noiseColumn h_f_h0_site_world_folk_noiseLoud (fun r7 H8 => ?_)
      exact hq _ trivial


set_option maxRecDepth 100000 in
theorem s_X11_status (h0_latestRefusal : Int32) {Q : Int32 → Prop} (hq : ∀ (r : Int32), True → Q r) : wp_X11_status h0_latestRefusal Q := by
  unfold wp_X11_status
  exact hq _ trivial


set_option maxRecDepth 100000 in
theorem s_X11_drawn (a : Int32) (b : Int32) (h0_drawnDay : Int32) (h0_drawnCrew_count : Int32) (f_h0_drawnCrew_buckets : Nat → Int32) (f_h0_drawnCrew_cell : Nat → Int32) (h_h0_drawnCrew_count : 0 ≤ h0_drawnCrew_count.toInt ∧ h0_drawnCrew_count.toInt ≤ 6) (h_f_h0_drawnCrew_buckets : BU f_h0_drawnCrew_buckets) (h_f_h0_drawnCrew_cell : CE f_h0_drawnCrew_cell) {Q : Int32 → Prop} (hq : ∀ (r : Int32), True → Q r) : wp_X11_drawn a b h0_drawnDay h0_drawnCrew_count f_h0_drawnCrew_buckets f_h0_drawnCrew_cell Q := by
  unfold wp_X11_drawn
  by_cases c1 : h0_drawnDay = (-1)
  · refine br1 c1 ?_
    have d2 := eq_z (x := (Int32.toInt h0_drawnDay)) (y := (-1)) rfl (by decide) c1
    exact hq _ trivial
  · refine br0 c1 ?_
    have d3 := ne_z (x := (Int32.toInt h0_drawnDay)) (y := (-1)) rfl (by decide) c1
    by_cases c4 : b < 0
    · refine br1 c4 ?_
      have d5 := lt_z (x := (Int32.toInt b)) (y := 0) rfl rfl c4
      exact hq _ trivial
    · refine br0 c4 ?_
      have d6 := nlt_z (x := (Int32.toInt b)) (y := 0) rfl rfl c4
      by_cases c7 : b ≤ 2
      · refine br1 c7 ?_
        have d8 := le_z (x := (Int32.toInt b)) (y := 2) rfl rfl c7
        by_cases c9 : b = 2
        · refine br1 c9 ?_
          have d10 := eq_z (x := (Int32.toInt b)) (y := 2) rfl rfl c9
          exact hq _ trivial
        · refine br0 c9 ?_
          have d11 := ne_z (x := (Int32.toInt b)) (y := 2) rfl rfl c9
          refine o_X11_isWithin _ _ _ ?_
          by_cases c12 : a < 0
          · refine br1 c12 ?_
            have d13 := lt_z (x := (Int32.toInt a)) (y := 0) rfl rfl c12
            refine br1 (by decide) ?_
            exact hq _ trivial
          · refine br0 c12 ?_
            have d14 := nlt_z (x := (Int32.toInt a)) (y := 0) rfl rfl c12
            by_cases c15 : h0_drawnCrew_count ≤ a
            · refine br1 c15 ?_
              have d16 := le_z (x := (Int32.toInt h0_drawnCrew_count)) (y := (Int32.toInt a)) rfl rfl c15
              refine br1 (by decide) ?_
              exact hq _ trivial
            · refine br0 c15 ?_
              have d17 := nle_z (x := (Int32.toInt h0_drawnCrew_count)) (y := (Int32.toInt a)) rfl rfl c15
              refine br0 (by decide) ?_
              by_cases c18 : b = 0
              · refine br1 c18 ?_
                have d19 := eq_z (x := (Int32.toInt b)) (y := 0) rfl rfl c18
                refine ⟨vpi (x := (Int32.toInt a)) rfl (by omega) (by omega), ?_⟩
                have g20 : 0 ≤ (Int32.toInt (f_h0_drawnCrew_cell a.toNatClampNeg)) ∧ (Int32.toInt (f_h0_drawnCrew_cell a.toNatClampNeg)) ≤ 39 := CE.at_0 h_f_h0_drawnCrew_cell (tnz (x := (Int32.toInt a)) rfl (by omega)) (by omega) (by omega)
                exact hq _ trivial
              · refine br0 c18 ?_
                have d21 := ne_z (x := (Int32.toInt b)) (y := 0) rfl rfl c18
                refine ⟨vpi (x := (Int32.toInt a)) rfl (by omega) (by omega), ?_⟩
                have g22 : 0 ≤ (Int32.toInt (f_h0_drawnCrew_buckets a.toNatClampNeg)) ∧ (Int32.toInt (f_h0_drawnCrew_buckets a.toNatClampNeg)) ≤ 9999 := BU.at_0 h_f_h0_drawnCrew_buckets (tnz (x := (Int32.toInt a)) rfl (by omega)) (by omega) (by omega)
                exact hq _ trivial
      · refine br0 c7 ?_
        have d23 := nle_z (x := (Int32.toInt b)) (y := 2) rfl rfl c7
        exact hq _ trivial


set_option maxRecDepth 100000 in
theorem sl_X4_meanWater_2 (a : Int32) (h0_wells : Int32) (f_h0_sounds : Nat → Int32) (f_h0_wet : Nat → Int32) (h_h0_wells : 0 ≤ h0_wells.toInt ∧ h0_wells.toInt ≤ 10) {Q : Int32 → Prop} (hq : ∀ (r : Int32), (0 ≤ r.toInt ∧ r.toInt ≤ 1) → Q r) (Qb : Int32 → Prop) (KX : ∀ (x_2 : Int32), (0 ≤ x_2.toInt ∧ x_2.toInt ≤ 10) → Qb x_2) : ∀ (n : Nat) (x_2 : Int32), (0 ≤ x_2.toInt ∧ x_2.toInt ≤ 10) → 11 - x_2.toInt < (n : Int) → wl_X4_meanWater_2 a h0_wells f_h0_sounds f_h0_wet Q Qb n x_2 := by
  intro n
  induction n with
  | zero =>
    intro x_2 hI hm
    exfalso; have hm : 11 - x_2.toInt < 0 := hm; omega
  | succ n ih =>
    intro x_2 hI hm
    have hm : 11 - x_2.toInt < (n : Int) + 1 := by simpa using hm
    have h_x_2 := hI
    unfold wl_X4_meanWater_2
    by_cases c1 : h0_wells ≤ x_2
    · refine br1 c1 ?_
      have d2 := le_z (x := (Int32.toInt h0_wells)) (y := (Int32.toInt x_2)) rfl rfl c1
      exact KX _ ⟨by omega, by omega⟩
    · refine br0 c1 ?_
      have d3 := nle_z (x := (Int32.toInt h0_wells)) (y := (Int32.toInt x_2)) rfl rfl c1
      refine ⟨vpi (x := (Int32.toInt x_2)) rfl (by omega) (by omega), ?_⟩
      refine jn_s ?_
      by_cases c4 : (a &&& ((f_h0_sounds x_2.toNatClampNeg) ^^^ (-1))) = 0
      · refine br1 c4 ?_
        have d5 := eq_z (x := (Int32.toInt (a &&& ((f_h0_sounds x_2.toNatClampNeg) ^^^ (-1))))) (y := 0) rfl rfl c4
        refine ⟨vpi (x := (Int32.toInt x_2)) rfl (by omega) (by omega), ?_⟩
        by_cases c6 : (f_h0_wet x_2.toNatClampNeg) = 1
        · refine br1 c6 ?_
          have d7 := eq_z (x := (Int32.toInt (f_h0_wet x_2.toNatClampNeg))) (y := 1) rfl rfl c6
          refine br1 (by decide) ?_
          have t8 : (Int32.toInt (x_2 + 1)) = (Int32.toInt x_2) + 1 := add_z rfl rfl (by omega) (by omega)
          exact ih _ ⟨by omega, by omega⟩ (by omega)
        · refine br0 c6 ?_
          have d9 := ne_z (x := (Int32.toInt (f_h0_wet x_2.toNatClampNeg))) (y := 1) rfl rfl c6
          refine br0 (by decide) ?_
          exact hq _ (by decide)
      · refine br0 c4 ?_
        have d10 := ne_z (x := (Int32.toInt (a &&& ((f_h0_sounds x_2.toNatClampNeg) ^^^ (-1))))) (y := 0) rfl rfl c4
        refine ⟨vpi (x := (Int32.toInt x_2)) rfl (by omega) (by omega), ?_⟩
        by_cases c11 : (f_h0_wet x_2.toNatClampNeg) = 1
        · refine br1 c11 ?_
          have d12 := eq_z (x := (Int32.toInt (f_h0_wet x_2.toNatClampNeg))) (y := 1) rfl rfl c11
          refine br0 (by decide) ?_
          exact hq _ (by decide)
        · refine br0 c11 ?_
          have d13 := ne_z (x := (Int32.toInt (f_h0_wet x_2.toNatClampNeg))) (y := 1) rfl rfl c11
          refine br1 (by decide) ?_
          have t14 : (Int32.toInt (x_2 + 1)) = (Int32.toInt x_2) + 1 := add_z rfl rfl (by omega) (by omega)
          exact ih _ ⟨by omega, by omega⟩ (by omega)
set_option maxRecDepth 100000 in
theorem s_X4_meanWater (a : Int32) (h0_wells : Int32) (f_h0_sounds : Nat → Int32) (f_h0_wet : Nat → Int32) (h_h0_wells : 0 ≤ h0_wells.toInt ∧ h0_wells.toInt ≤ 10) {Q : Int32 → Prop} (hq : ∀ (r : Int32), (0 ≤ r.toInt ∧ r.toInt ≤ 1) → Q r) : wp_X4_meanWater a h0_wells f_h0_sounds f_h0_wet Q := by
  unfold wp_X4_meanWater
  have k3 : Int32.toInt 0 = 0 := rfl
  refine sl_X4_meanWater_2 a h0_wells (f_h0_sounds) (f_h0_wet) ⟨by omega, by omega⟩ hq _ (fun x1 X2 => ?_) 1000000000000 0 (by decide) (by omega)
  have j4 := X2
  exact hq _ (by decide)


set_option maxRecDepth 100000 in
theorem sl_X4_fewestSounds_4 (h0_wells : Int32) (f_h0_sounds : Nat → Int32) (f_h0_wet : Nat → Int32) (h_h0_wells : 0 ≤ h0_wells.toInt ∧ h0_wells.toInt ≤ 10) (Qb : Int32 → Int32 → Prop) (KX : ∀ (x_4_0 : Int32) (x_4_1 : Int32), (64 ≤ x_4_0.toInt ∧ x_4_0.toInt ≤ 64) ∧ ((-1) ≤ x_4_1.toInt ∧ x_4_1.toInt ≤ 2147483647) → Qb x_4_0 x_4_1) : ∀ (n : Nat) (x_4_0 : Int32) (x_4_1 : Int32), (0 ≤ x_4_0.toInt ∧ x_4_0.toInt ≤ 64) ∧ ((-1) ≤ x_4_1.toInt ∧ x_4_1.toInt ≤ 2147483647) → 65 - x_4_0.toInt < (n : Int) → wl_X4_fewestSounds_4 h0_wells f_h0_sounds f_h0_wet Qb n x_4_0 x_4_1 := by
  intro n
  induction n with
  | zero =>
    intro x_4_0 x_4_1 hI hm
    exfalso; have hm : 65 - x_4_0.toInt < 0 := hm; omega
  | succ n ih =>
    intro x_4_0 x_4_1 hI hm
    have hm : 65 - x_4_0.toInt < (n : Int) + 1 := by simpa using hm
    have h_x_4_0 := hI.1
    have h_x_4_1 := hI.2
    unfold wl_X4_fewestSounds_4
    by_cases c1 : 64 ≤ x_4_0
    · refine br1 c1 ?_
      have d2 := le_z (x := 64) (y := (Int32.toInt x_4_0)) rfl rfl c1
      have t3 := i32_hi x_4_1
      exact KX _ _ ⟨⟨by omega, by omega⟩, ⟨by omega, by omega⟩⟩
    · refine br0 c1 ?_
      have d4 := nle_z (x := 64) (y := (Int32.toInt x_4_0)) rfl rfl c1
      refine jn_s ?_
      by_cases c5 : x_4_1 = (-1)
      · refine br1 c5 ?_
        have d6 := eq_z (x := (Int32.toInt x_4_1)) (y := (-1)) rfl (by decide) c5
        refine br0 (by decide) ?_
        refine s_X4_meanWater x_4_0 h0_wells (f_h0_sounds) (f_h0_wet) ⟨by omega, by omega⟩ (fun r7 H8 => ?_)
        have j9 := H8
        by_cases c10 : r7 = 0
        · refine br1 c10 ?_
          have d11 := eq_z (x := (Int32.toInt r7)) (y := 0) rfl rfl c10
          have t12 : (Int32.toInt (x_4_0 + 1)) = (Int32.toInt x_4_0) + 1 := add_z rfl rfl (by omega) (by omega)
          have t13 := i32_hi x_4_1
          exact ih _ _ ⟨⟨by omega, by omega⟩, ⟨by omega, by omega⟩⟩ (by omega)
        · refine br0 c10 ?_
          have d14 := ne_z (x := (Int32.toInt r7)) (y := 0) rfl rfl c10
          have t15 : (Int32.toInt (x_4_0 + 1)) = (Int32.toInt x_4_0) + 1 := add_z rfl rfl (by omega) (by omega)
          have t16 := i32_hi x_4_0
          exact ih _ _ ⟨⟨by omega, by omega⟩, ⟨by omega, by omega⟩⟩ (by omega)
      · refine br0 c5 ?_
        have d17 := ne_z (x := (Int32.toInt x_4_1)) (y := (-1)) rfl (by decide) c5
        refine s_J6_bitCount_0f7a4 x_4_0  (fun r18 H19 => ?_)
        refine s_J6_bitCount_0f7a4 x_4_1  (fun r20 H21 => ?_)
        by_cases c22 : r20 ≤ r18
        · refine br1 c22 ?_
          have d23 := le_z (x := (Int32.toInt r20)) (y := (Int32.toInt r18)) rfl rfl c22
          refine br1 (by decide) ?_
          have t24 : (Int32.toInt (x_4_0 + 1)) = (Int32.toInt x_4_0) + 1 := add_z rfl rfl (by omega) (by omega)
          have t25 := i32_hi x_4_1
          exact ih _ _ ⟨⟨by omega, by omega⟩, ⟨by omega, by omega⟩⟩ (by omega)
        · refine br0 c22 ?_
          have d26 := nle_z (x := (Int32.toInt r20)) (y := (Int32.toInt r18)) rfl rfl c22
          refine br0 (by decide) ?_
          refine s_X4_meanWater x_4_0 h0_wells (f_h0_sounds) (f_h0_wet) ⟨by omega, by omega⟩ (fun r27 H28 => ?_)
          have j29 := H28
          by_cases c30 : r27 = 0
          · refine br1 c30 ?_
            have d31 := eq_z (x := (Int32.toInt r27)) (y := 0) rfl rfl c30
            have t32 : (Int32.toInt (x_4_0 + 1)) = (Int32.toInt x_4_0) + 1 := add_z rfl rfl (by omega) (by omega)
            have t33 := i32_hi x_4_1
            exact ih _ _ ⟨⟨by omega, by omega⟩, ⟨by omega, by omega⟩⟩ (by omega)
          · refine br0 c30 ?_
            have d34 := ne_z (x := (Int32.toInt r27)) (y := 0) rfl rfl c30
            have t35 : (Int32.toInt (x_4_0 + 1)) = (Int32.toInt x_4_0) + 1 := add_z rfl rfl (by omega) (by omega)
            have t36 := i32_hi x_4_0
            exact ih _ _ ⟨⟨by omega, by omega⟩, ⟨by omega, by omega⟩⟩ (by omega)
set_option maxRecDepth 100000 in
theorem s_X4_fewestSounds (h0_wells : Int32) (f_h0_sounds : Nat → Int32) (f_h0_wet : Nat → Int32) (h_h0_wells : 0 ≤ h0_wells.toInt ∧ h0_wells.toInt ≤ 10) {Q : Int32 → Prop} (hq : ∀ (r : Int32), True → Q r) : wp_X4_fewestSounds h0_wells f_h0_sounds f_h0_wet Q := by
  unfold wp_X4_fewestSounds
  have k3 : Int32.toInt 0 = 0 := rfl
  have k4 : Int32.toInt (-1) = (-1) := (by decide)
  refine sl_X4_fewestSounds_4 h0_wells (f_h0_sounds) (f_h0_wet) ⟨by omega, by omega⟩ _ (fun x1_0 x1_1 X2 => ?_) 1000000000000 0 (-1) ⟨(by decide), (by decide)⟩ (by omega)
  have j5 := X2.1
  have j6 := X2.2
  exact hq _ trivial


set_option maxRecDepth 100000 in
theorem s_X11_tongue (a : Int32) (h0_site_world_folk_wells : Int32) (f_h0_site_world_folk_sounds : Nat → Int32) (f_h0_site_world_folk_wet : Nat → Int32) (h_h0_site_world_folk_wells : 0 ≤ h0_site_world_folk_wells.toInt ∧ h0_site_world_folk_wells.toInt ≤ 10) {Q : Int32 → Prop} (hq : ∀ (r : Int32), True → Q r) : wp_X11_tongue a h0_site_world_folk_wells f_h0_site_world_folk_sounds f_h0_site_world_folk_wet Q := by
  unfold wp_X11_tongue
  refine o_X11_isWithin _ _ _ ?_
  by_cases c1 : a < 0
  · refine br1 c1 ?_
    have d2 := lt_z (x := (Int32.toInt a)) (y := 0) rfl rfl c1
    refine jn_s ?_
    refine br1 (by decide) ?_
    refine br1 (by decide) ?_
    exact hq _ trivial
  · refine br0 c1 ?_
    have d3 := nlt_z (x := (Int32.toInt a)) (y := 0) rfl rfl c1
    by_cases c4 : 2 ≤ a
    · refine br1 c4 ?_
      have d5 := le_z (x := 2) (y := (Int32.toInt a)) rfl rfl c4
      refine jn_s ?_
      refine br1 (by decide) ?_
      refine br1 (by decide) ?_
      exact hq _ trivial
    · refine br0 c4 ?_
      have d6 := nle_z (x := 2) (y := (Int32.toInt a)) rfl rfl c4
      refine jn_s ?_
      refine br0 (by decide) ?_
      refine s_X4_fewestSounds h0_site_world_folk_wells (f_h0_site_world_folk_sounds) (f_h0_site_world_folk_wet) ⟨by omega, by omega⟩ (fun r7 H8 => ?_)
      by_cases c9 : r7 = (-1)
      · refine br1 c9 ?_
        have d10 := eq_z (x := (Int32.toInt r7)) (y := (-1)) rfl (by decide) c9
        exact hq _ trivial
      · refine br0 c9 ?_
        have d11 := ne_z (x := (Int32.toInt r7)) (y := (-1)) rfl (by decide) c9
        by_cases c12 : a = 0
        · refine br1 c12 ?_
          have d13 := eq_z (x := (Int32.toInt a)) (y := 0) rfl rfl c12
          refine s_J6_bitCount_0f7a4 r7  (fun r14 H15 => ?_)
          exact hq _ trivial
        · refine br0 c12 ?_
          have d16 := ne_z (x := (Int32.toInt a)) (y := 0) rfl rfl c12
          exact hq _ trivial


set_option maxRecDepth 100000 in
theorem sl_X6_veinOf_5 (f_h0_kind : Nat → Int32) (h_f_h0_kind : KI f_h0_kind) (Qb : Int32 → Int64 → Prop) (KX : ∀ (x_5_0 : Int32) (x_5_1 : Int64), (40 ≤ x_5_0.toInt ∧ x_5_0.toInt ≤ 40) → Qb x_5_0 x_5_1) : ∀ (n : Nat) (x_5_0 : Int32) (x_5_1 : Int64), (0 ≤ x_5_0.toInt ∧ x_5_0.toInt ≤ 40) → 41 - x_5_0.toInt < (n : Int) → wl_X6_veinOf_5 f_h0_kind Qb n x_5_0 x_5_1 := by
  intro n
  induction n with
  | zero =>
    intro x_5_0 x_5_1 hI hm
    exfalso; have hm : 41 - x_5_0.toInt < 0 := hm; omega
  | succ n ih =>
    intro x_5_0 x_5_1 hI hm
    have hm : 41 - x_5_0.toInt < (n : Int) + 1 := by simpa using hm
    have h_x_5_0 := hI
    unfold wl_X6_veinOf_5
    by_cases c1 : 40 ≤ x_5_0
    · refine br1 c1 ?_
      have d2 := le_z (x := 40) (y := (Int32.toInt x_5_0)) rfl rfl c1
      exact KX _ _ ⟨by omega, by omega⟩
    · refine br0 c1 ?_
      have d3 := nle_z (x := 40) (y := (Int32.toInt x_5_0)) rfl rfl c1
      refine ⟨vpi (x := (Int32.toInt x_5_0)) rfl (by omega) (by omega), ?_⟩
      by_cases c4 : (f_h0_kind x_5_0.toNatClampNeg) = 3
      · refine br1 c4 ?_
        have g5 : 0 ≤ (Int32.toInt (f_h0_kind x_5_0.toNatClampNeg)) ∧ (Int32.toInt (f_h0_kind x_5_0.toNatClampNeg)) ≤ 3 := KI.at_0 h_f_h0_kind (tnz (x := (Int32.toInt x_5_0)) rfl (by omega)) (by omega) (by omega)
        have d6 := eq_z (x := (Int32.toInt (f_h0_kind x_5_0.toNatClampNeg))) (y := 3) rfl rfl c4
        have t7 : (Int32.toInt (x_5_0 + 1)) = (Int32.toInt x_5_0) + 1 := add_z rfl rfl (by omega) (by omega)
        exact ih _ _ ⟨by omega, by omega⟩ (by omega)
      · refine br0 c4 ?_
        have g8 : 0 ≤ (Int32.toInt (f_h0_kind x_5_0.toNatClampNeg)) ∧ (Int32.toInt (f_h0_kind x_5_0.toNatClampNeg)) ≤ 3 := KI.at_0 h_f_h0_kind (tnz (x := (Int32.toInt x_5_0)) rfl (by omega)) (by omega) (by omega)
        have d9 := ne_z (x := (Int32.toInt (f_h0_kind x_5_0.toNatClampNeg))) (y := 3) rfl rfl c4
        have t10 : (Int32.toInt (x_5_0 + 1)) = (Int32.toInt x_5_0) + 1 := add_z rfl rfl (by omega) (by omega)
        exact ih _ _ ⟨by omega, by omega⟩ (by omega)
set_option maxRecDepth 100000 in
theorem sl_X6_veinOf_46 (x_5_1 : Int64) (Qb : Int32 → Int64 → Prop) (KX : ∀ (x_46_0 : Int32) (x_46_1 : Int64), (0 ≤ x_46_0.toInt ∧ x_46_0.toInt ≤ 40) → Qb x_46_0 x_46_1) : ∀ (n : Nat) (x_46_0 : Int32) (x_46_1 : Int64), (0 ≤ x_46_0.toInt ∧ x_46_0.toInt ≤ 40) → 41 - x_46_0.toInt < (n : Int) → wl_X6_veinOf_46 x_5_1 Qb n x_46_0 x_46_1 := by
  intro n
  induction n with
  | zero =>
    intro x_46_0 x_46_1 hI hm
    exfalso; have hm : 41 - x_46_0.toInt < 0 := hm; omega
  | succ n ih =>
    intro x_46_0 x_46_1 hI hm
    have hm : 41 - x_46_0.toInt < (n : Int) + 1 := by simpa using hm
    have h_x_46_0 := hI
    unfold wl_X6_veinOf_46
    by_cases c6 : 40 ≤ x_46_0
    · refine br1 c6 ?_
      have d7 := le_z (x := 40) (y := (Int32.toInt x_46_0)) rfl rfl c6
      exact KX _ _ ⟨by omega, by omega⟩
    · refine br0 c6 ?_
      have d8 := nle_z (x := 40) (y := (Int32.toInt x_46_0)) rfl rfl c6
      by_cases c9 : (lg_cmp (((((x_46_1 ||| ((x_46_1 &&& (-4311810306)) >>> ((1 : Int32).toInt64 &&& 63))) ||| ((x_46_1 &&& (-551911719041)) <<< ((1 : Int32).toInt64 &&& 63))) ||| (x_46_1 <<< ((8 : Int32).toInt64 &&& 63))) ||| (x_46_1 >>> ((8 : Int32).toInt64 &&& 63))) &&& x_5_1) x_46_1) = 0
      · refine br1 c9 ?_
        have d10 := c_eq (x := (Int64.toInt (((((x_46_1 ||| ((x_46_1 &&& (-4311810306)) >>> ((1 : Int32).toInt64 &&& 63))) ||| ((x_46_1 &&& (-551911719041)) <<< ((1 : Int32).toInt64 &&& 63))) ||| (x_46_1 <<< ((8 : Int32).toInt64 &&& 63))) ||| (x_46_1 >>> ((8 : Int32).toInt64 &&& 63))) &&& x_5_1))) (y := (Int64.toInt x_46_1)) rfl rfl c9
        exact KX _ _ ⟨by omega, by omega⟩
      · refine br0 c9 ?_
        have d11 := c_ne (x := (Int64.toInt (((((x_46_1 ||| ((x_46_1 &&& (-4311810306)) >>> ((1 : Int32).toInt64 &&& 63))) ||| ((x_46_1 &&& (-551911719041)) <<< ((1 : Int32).toInt64 &&& 63))) ||| (x_46_1 <<< ((8 : Int32).toInt64 &&& 63))) ||| (x_46_1 >>> ((8 : Int32).toInt64 &&& 63))) &&& x_5_1))) (y := (Int64.toInt x_46_1)) rfl rfl c9
        have t12 : (Int32.toInt (x_46_0 + 1)) = (Int32.toInt x_46_0) + 1 := add_z rfl rfl (by omega) (by omega)
        exact ih _ _ ⟨by omega, by omega⟩ (by omega)
set_option maxRecDepth 100000 in
theorem s_X6_veinOf (a : Int32) (f_h0_kind : Nat → Int32) (h_a : 0 ≤ a.toInt ∧ a.toInt ≤ 39) (h_f_h0_kind : KI f_h0_kind) {Q : Int64 → Prop} (hq : ∀ (r : Int64), True → Q r) : wp_X6_veinOf a f_h0_kind Q := by
  unfold wp_X6_veinOf
  have k3 : Int32.toInt 0 = 0 := rfl
  have k4 : Int64.toInt 0 = 0 := rfl
  refine sl_X6_veinOf_5 (f_h0_kind) h_f_h0_kind _ (fun x1_0 x1_1 X2 => ?_) 1000000000000 0 0 (by decide) (by omega)
  have j5 := X2
  refine sl_X6_veinOf_46 x1_1  _ (fun x6_0 x6_1 X7 => ?_) 1000000000000 0 (((1 : Int64) <<< (a.toInt64 &&& 63)) &&& x1_1) (by decide) (by omega)
  have j8 := X7
  exact hq _ trivial


set_option maxRecDepth 100000 in
theorem s_X10_shareOf (a : Int32) (f_h0_rock_kind : Nat → Int32) (h0_crew_count : Int32) (f_h0_crew_cell : Nat → Int32) (f_h0_rock_water : Nat → Int32) (h_a : 0 ≤ a.toInt ∧ a.toInt ≤ 39) (h_f_h0_rock_kind : KI f_h0_rock_kind) (h_h0_crew_count : 0 ≤ h0_crew_count.toInt ∧ h0_crew_count.toInt ≤ 6) (h_f_h0_crew_cell : CE f_h0_crew_cell) (h_f_h0_rock_water : WA f_h0_rock_water) {Q : Int32 → Prop} (hq : ∀ (r : Int32), True → Q r) : wp_X10_shareOf a f_h0_rock_kind h0_crew_count f_h0_crew_cell f_h0_rock_water Q := by
  unfold wp_X10_shareOf
  refine s_X6_veinOf a (f_h0_rock_kind) ⟨by omega, by omega⟩ h_f_h0_rock_kind (fun r1 H2 => ?_)
  refine s_X1_countIn r1 h0_crew_count (f_h0_crew_cell) ⟨by omega, by omega⟩ h_f_h0_crew_cell (fun r3 H4 => ?_)
  by_cases c5 : r3 = 0
  · refine br1 c5 ?_
    have d6 := eq_z (x := (Int32.toInt r3)) (y := 0) rfl rfl c5
    exact hq _ trivial
  · refine br0 c5 ?_
    have d7 := ne_z (x := (Int32.toInt r3)) (y := 0) rfl rfl c5
    refine s_X6_waterIn r1 (f_h0_rock_water) h_f_h0_rock_water (fun r8 H9 => ?_)
    refine ⟨z_ne (x := (Int32.toInt r3)) (y := 0) rfl rfl (by omega), ?_⟩
    exact hq _ trivial


set_option maxRecDepth 100000 in
theorem s_X11_of (a : Int32) (b : Int32) (h0_site_world_crew_count : Int32) (f_h0_site_world_crew_cell : Nat → Int32) (f_h0_site_world_crew_buckets : Nat → Int32) (f_h0_site_world_rock_kind : Nat → Int32) (f_h0_site_world_rock_water : Nat → Int32) (h_h0_site_world_crew_count : 0 ≤ h0_site_world_crew_count.toInt ∧ h0_site_world_crew_count.toInt ≤ 6) (h_f_h0_site_world_crew_cell : CE f_h0_site_world_crew_cell) (h_f_h0_site_world_crew_buckets : BU f_h0_site_world_crew_buckets) (h_f_h0_site_world_rock_kind : KI f_h0_site_world_rock_kind) (h_f_h0_site_world_rock_water : WA f_h0_site_world_rock_water) {Q : Int32 → Prop} (hq : ∀ (r : Int32), True → Q r) : wp_X11_of a b h0_site_world_crew_count f_h0_site_world_crew_cell f_h0_site_world_crew_buckets f_h0_site_world_rock_kind f_h0_site_world_rock_water Q := by
  unfold wp_X11_of
  refine o_X11_isWithin _ _ _ ?_
  by_cases c1 : a < 0
  · refine br1 c1 ?_
    have d2 := lt_z (x := (Int32.toInt a)) (y := 0) rfl rfl c1
    refine br1 (by decide) ?_
    exact hq _ trivial
  · refine br0 c1 ?_
    have d3 := nlt_z (x := (Int32.toInt a)) (y := 0) rfl rfl c1
    by_cases c4 : h0_site_world_crew_count ≤ a
    · refine br1 c4 ?_
      have d5 := le_z (x := (Int32.toInt h0_site_world_crew_count)) (y := (Int32.toInt a)) rfl rfl c4
      refine br1 (by decide) ?_
      exact hq _ trivial
    · refine br0 c4 ?_
      have d6 := nle_z (x := (Int32.toInt h0_site_world_crew_count)) (y := (Int32.toInt a)) rfl rfl c4
      refine br0 (by decide) ?_
      refine ⟨vpi (x := (Int32.toInt a)) rfl (by omega) (by omega), ?_⟩
      by_cases c7 : b = 0
      · refine br1 c7 ?_
        have d8 := eq_z (x := (Int32.toInt b)) (y := 0) rfl rfl c7
        have g9 : 0 ≤ (Int32.toInt (f_h0_site_world_crew_cell a.toNatClampNeg)) ∧ (Int32.toInt (f_h0_site_world_crew_cell a.toNatClampNeg)) ≤ 39 := CE.at_0 h_f_h0_site_world_crew_cell (tnz (x := (Int32.toInt a)) rfl (by omega)) (by omega) (by omega)
        exact hq _ trivial
      · refine br0 c7 ?_
        have d10 := ne_z (x := (Int32.toInt b)) (y := 0) rfl rfl c7
        by_cases c11 : b = 1
        · refine br1 c11 ?_
          have d12 := eq_z (x := (Int32.toInt b)) (y := 1) rfl rfl c11
          refine ⟨vpi (x := (Int32.toInt a)) rfl (by omega) (by omega), ?_⟩
          have g13 : 0 ≤ (Int32.toInt (f_h0_site_world_crew_buckets a.toNatClampNeg)) ∧ (Int32.toInt (f_h0_site_world_crew_buckets a.toNatClampNeg)) ≤ 9999 := BU.at_0 h_f_h0_site_world_crew_buckets (tnz (x := (Int32.toInt a)) rfl (by omega)) (by omega) (by omega)
          exact hq _ trivial
        · refine br0 c11 ?_
          have d14 := ne_z (x := (Int32.toInt b)) (y := 1) rfl rfl c11
          by_cases c15 : b = 2
          · refine br1 c15 ?_
            have d16 := eq_z (x := (Int32.toInt b)) (y := 2) rfl rfl c15
            have g17 : 0 ≤ (Int32.toInt (f_h0_site_world_crew_cell a.toNatClampNeg)) ∧ (Int32.toInt (f_h0_site_world_crew_cell a.toNatClampNeg)) ≤ 39 := CE.at_0 h_f_h0_site_world_crew_cell (tnz (x := (Int32.toInt a)) rfl (by omega)) (by omega) (by omega)
            refine ⟨vpi (x := (Int32.toInt (f_h0_site_world_crew_cell a.toNatClampNeg))) rfl (by omega) (by omega), ?_⟩
            by_cases c18 : (f_h0_site_world_rock_kind (f_h0_site_world_crew_cell a.toNatClampNeg).toNatClampNeg) = 2
            · refine br1 c18 ?_
              have g19 : 0 ≤ (Int32.toInt (f_h0_site_world_rock_kind (f_h0_site_world_crew_cell a.toNatClampNeg).toNatClampNeg)) ∧ (Int32.toInt (f_h0_site_world_rock_kind (f_h0_site_world_crew_cell a.toNatClampNeg).toNatClampNeg)) ≤ 3 := KI.at_0 h_f_h0_site_world_rock_kind (tnz (x := (Int32.toInt (f_h0_site_world_crew_cell a.toNatClampNeg))) rfl (by omega)) (by omega) (by omega)
              have d20 := eq_z (x := (Int32.toInt (f_h0_site_world_rock_kind (f_h0_site_world_crew_cell a.toNatClampNeg).toNatClampNeg))) (y := 2) rfl rfl c18
              exact hq _ trivial
            · refine br0 c18 ?_
              have g21 : 0 ≤ (Int32.toInt (f_h0_site_world_rock_kind (f_h0_site_world_crew_cell a.toNatClampNeg).toNatClampNeg)) ∧ (Int32.toInt (f_h0_site_world_rock_kind (f_h0_site_world_crew_cell a.toNatClampNeg).toNatClampNeg)) ≤ 3 := KI.at_0 h_f_h0_site_world_rock_kind (tnz (x := (Int32.toInt (f_h0_site_world_crew_cell a.toNatClampNeg))) rfl (by omega)) (by omega) (by omega)
              have d22 := ne_z (x := (Int32.toInt (f_h0_site_world_rock_kind (f_h0_site_world_crew_cell a.toNatClampNeg).toNatClampNeg))) (y := 2) rfl rfl c18
              exact hq _ trivial
          · refine br0 c15 ?_
            have d23 := ne_z (x := (Int32.toInt b)) (y := 2) rfl rfl c15
            by_cases c24 : b = 3
            · refine br1 c24 ?_
              have d25 := eq_z (x := (Int32.toInt b)) (y := 3) rfl rfl c24
              have g26 : 0 ≤ (Int32.toInt (f_h0_site_world_crew_cell a.toNatClampNeg)) ∧ (Int32.toInt (f_h0_site_world_crew_cell a.toNatClampNeg)) ≤ 39 := CE.at_0 h_f_h0_site_world_crew_cell (tnz (x := (Int32.toInt a)) rfl (by omega)) (by omega) (by omega)
              refine ⟨vpi (x := (Int32.toInt (f_h0_site_world_crew_cell a.toNatClampNeg))) rfl (by omega) (by omega), ?_⟩
              by_cases c27 : (f_h0_site_world_rock_kind (f_h0_site_world_crew_cell a.toNatClampNeg).toNatClampNeg) = 3
              · refine br1 c27 ?_
                have g28 : 0 ≤ (Int32.toInt (f_h0_site_world_rock_kind (f_h0_site_world_crew_cell a.toNatClampNeg).toNatClampNeg)) ∧ (Int32.toInt (f_h0_site_world_rock_kind (f_h0_site_world_crew_cell a.toNatClampNeg).toNatClampNeg)) ≤ 3 := KI.at_0 h_f_h0_site_world_rock_kind (tnz (x := (Int32.toInt (f_h0_site_world_crew_cell a.toNatClampNeg))) rfl (by omega)) (by omega) (by omega)
                have d29 := eq_z (x := (Int32.toInt (f_h0_site_world_rock_kind (f_h0_site_world_crew_cell a.toNatClampNeg).toNatClampNeg))) (y := 3) rfl rfl c27
                exact hq _ trivial
              · refine br0 c27 ?_
                have g30 : 0 ≤ (Int32.toInt (f_h0_site_world_rock_kind (f_h0_site_world_crew_cell a.toNatClampNeg).toNatClampNeg)) ∧ (Int32.toInt (f_h0_site_world_rock_kind (f_h0_site_world_crew_cell a.toNatClampNeg).toNatClampNeg)) ≤ 3 := KI.at_0 h_f_h0_site_world_rock_kind (tnz (x := (Int32.toInt (f_h0_site_world_crew_cell a.toNatClampNeg))) rfl (by omega)) (by omega) (by omega)
                have d31 := ne_z (x := (Int32.toInt (f_h0_site_world_rock_kind (f_h0_site_world_crew_cell a.toNatClampNeg).toNatClampNeg))) (y := 3) rfl rfl c27
                exact hq _ trivial
            · refine br0 c24 ?_
              have d32 := ne_z (x := (Int32.toInt b)) (y := 3) rfl rfl c24
              by_cases c33 : b = 4
              · refine br1 c33 ?_
                have d34 := eq_z (x := (Int32.toInt b)) (y := 4) rfl rfl c33
                have g35 : 0 ≤ (Int32.toInt (f_h0_site_world_crew_cell a.toNatClampNeg)) ∧ (Int32.toInt (f_h0_site_world_crew_cell a.toNatClampNeg)) ≤ 39 := CE.at_0 h_f_h0_site_world_crew_cell (tnz (x := (Int32.toInt a)) rfl (by omega)) (by omega) (by omega)
                refine s_X10_shareOf (f_h0_site_world_crew_cell a.toNatClampNeg) (f_h0_site_world_rock_kind) h0_site_world_crew_count (f_h0_site_world_crew_cell) (f_h0_site_world_rock_water) ⟨by omega, by omega⟩ h_f_h0_site_world_rock_kind ⟨by omega, by omega⟩ h_f_h0_site_world_crew_cell h_f_h0_site_world_rock_water (fun r36 H37 => ?_)
                exact hq _ trivial
              · refine br0 c33 ?_
                have d38 := ne_z (x := (Int32.toInt b)) (y := 4) rfl rfl c33
                exact hq _ trivial


set_option maxRecDepth 100000 in
theorem s_X11_vein (a : Int32) (b : Int32) (f_h0_site_world_rock_kind : Nat → Int32) (f_h0_site_world_rock_water : Nat → Int32) (h0_site_world_crew_count : Int32) (f_h0_site_world_crew_cell : Nat → Int32) (h_f_h0_site_world_rock_kind : KI f_h0_site_world_rock_kind) (h_f_h0_site_world_rock_water : WA f_h0_site_world_rock_water) (h_h0_site_world_crew_count : 0 ≤ h0_site_world_crew_count.toInt ∧ h0_site_world_crew_count.toInt ≤ 6) (h_f_h0_site_world_crew_cell : CE f_h0_site_world_crew_cell) {Q : Int64 → Prop} (hq : ∀ (r : Int64), True → Q r) : wp_X11_vein a b f_h0_site_world_rock_kind f_h0_site_world_rock_water h0_site_world_crew_count f_h0_site_world_crew_cell Q := by
  unfold wp_X11_vein
  refine o_X11_isWithin _ _ _ ?_
  by_cases c1 : a < 0
  · refine br1 c1 ?_
    have d2 := lt_z (x := (Int32.toInt a)) (y := 0) rfl rfl c1
    refine br1 (by decide) ?_
    exact hq _ trivial
  · refine br0 c1 ?_
    have d3 := nlt_z (x := (Int32.toInt a)) (y := 0) rfl rfl c1
    by_cases c4 : 40 ≤ a
    · refine br1 c4 ?_
      have d5 := le_z (x := 40) (y := (Int32.toInt a)) rfl rfl c4
      refine br1 (by decide) ?_
      exact hq _ trivial
    · refine br0 c4 ?_
      have d6 := nle_z (x := 40) (y := (Int32.toInt a)) rfl rfl c4
      refine br0 (by decide) ?_
      refine ⟨vpi (x := (Int32.toInt a)) rfl (by omega) (by omega), ?_⟩
      by_cases c7 : (f_h0_site_world_rock_kind a.toNatClampNeg) = 3
      · refine br1 c7 ?_
        have g8 : 0 ≤ (Int32.toInt (f_h0_site_world_rock_kind a.toNatClampNeg)) ∧ (Int32.toInt (f_h0_site_world_rock_kind a.toNatClampNeg)) ≤ 3 := KI.at_0 h_f_h0_site_world_rock_kind (tnz (x := (Int32.toInt a)) rfl (by omega)) (by omega) (by omega)
        have d9 := eq_z (x := (Int32.toInt (f_h0_site_world_rock_kind a.toNatClampNeg))) (y := 3) rfl rfl c7
        refine s_X6_veinOf a (f_h0_site_world_rock_kind) ⟨by omega, by omega⟩ h_f_h0_site_world_rock_kind (fun r10 H11 => ?_)
        by_cases c12 : b = 0
        · refine br1 c12 ?_
          have d13 := eq_z (x := (Int32.toInt b)) (y := 0) rfl rfl c12
          exact hq _ trivial
        · refine br0 c12 ?_
          have d14 := ne_z (x := (Int32.toInt b)) (y := 0) rfl rfl c12
          by_cases c15 : b = 1
          · refine br1 c15 ?_
            have d16 := eq_z (x := (Int32.toInt b)) (y := 1) rfl rfl c15
            refine s_X6_waterIn r10 (f_h0_site_world_rock_water) h_f_h0_site_world_rock_water (fun r17 H18 => ?_)
            have t19 : (Int64.toInt r17.toInt64) = (Int32.toInt r17) := i2l_z rfl
            exact hq _ trivial
          · refine br0 c15 ?_
            have d20 := ne_z (x := (Int32.toInt b)) (y := 1) rfl rfl c15
            by_cases c21 : b = 2
            · refine br1 c21 ?_
              have d22 := eq_z (x := (Int32.toInt b)) (y := 2) rfl rfl c21
              refine s_X1_countIn r10 h0_site_world_crew_count (f_h0_site_world_crew_cell) ⟨by omega, by omega⟩ h_f_h0_site_world_crew_cell (fun r23 H24 => ?_)
              have t25 : (Int64.toInt r23.toInt64) = (Int32.toInt r23) := i2l_z rfl
              exact hq _ trivial
            · refine br0 c21 ?_
              have d26 := ne_z (x := (Int32.toInt b)) (y := 2) rfl rfl c21
              exact hq _ trivial
      · refine br0 c7 ?_
        have g27 : 0 ≤ (Int32.toInt (f_h0_site_world_rock_kind a.toNatClampNeg)) ∧ (Int32.toInt (f_h0_site_world_rock_kind a.toNatClampNeg)) ≤ 3 := KI.at_0 h_f_h0_site_world_rock_kind (tnz (x := (Int32.toInt a)) rfl (by omega)) (by omega) (by omega)
        have d28 := ne_z (x := (Int32.toInt (f_h0_site_world_rock_kind a.toNatClampNeg))) (y := 3) rfl rfl c7
        exact hq _ trivial


set_option maxRecDepth 100000 in
theorem s_X11_count (a : Int32) (h0_site_world_lawCount : Int32) (h0_site_world_force : Int32) (h0_site_world_crew_count : Int32) (h0_site_world_folk_listeners : Int32) (h0_site_world_folk_noises : Int32) (h0_site_world_folk_hearsay : Int32) (h0_site_world_folk_wells : Int32) (h0_site_world_rock_dug : Int64) (h0_site_diary_kept : Int32) (h0_reader_length : Int32) (f_h0_refusals : Nat → Int32) (f_h0_site_world_term : Nat → Int32) (h_h0_site_world_lawCount : 0 ≤ h0_site_world_lawCount.toInt ∧ h0_site_world_lawCount.toInt ≤ 6) (h_h0_site_world_force : (-1) ≤ h0_site_world_force.toInt ∧ h0_site_world_force.toInt ≤ 5) (h_h0_site_world_crew_count : 0 ≤ h0_site_world_crew_count.toInt ∧ h0_site_world_crew_count.toInt ≤ 6) (h_h0_site_world_folk_listeners : 0 ≤ h0_site_world_folk_listeners.toInt ∧ h0_site_world_folk_listeners.toInt ≤ 5) (h_h0_site_world_folk_noises : 0 ≤ h0_site_world_folk_noises.toInt ∧ h0_site_world_folk_noises.toInt ≤ 6) (h_h0_site_world_folk_hearsay : 0 ≤ h0_site_world_folk_hearsay.toInt ∧ h0_site_world_folk_hearsay.toInt ≤ 8) (h_h0_site_world_folk_wells : 0 ≤ h0_site_world_folk_wells.toInt ∧ h0_site_world_folk_wells.toInt ≤ 10) (h_h0_site_diary_kept : 0 ≤ h0_site_diary_kept.toInt ∧ h0_site_diary_kept.toInt ≤ 16) (h_h0_reader_length : 0 ≤ h0_reader_length.toInt ∧ h0_reader_length.toInt ≤ 400) (h_f_h0_site_world_term : TE f_h0_site_world_term) {Q : Int32 → Prop} (hq : ∀ (r : Int32), True → Q r) : wp_X11_count a h0_site_world_lawCount h0_site_world_force h0_site_world_crew_count h0_site_world_folk_listeners h0_site_world_folk_noises h0_site_world_folk_hearsay h0_site_world_folk_wells h0_site_world_rock_dug h0_site_diary_kept h0_reader_length f_h0_refusals f_h0_site_world_term Q := by
  unfold wp_X11_count
  by_cases c1 : a = 0
  · refine br1 c1 ?_
    have d2 := eq_z (x := (Int32.toInt a)) (y := 0) rfl rfl c1
    exact hq _ trivial
  · refine br0 c1 ?_
    have d3 := ne_z (x := (Int32.toInt a)) (y := 0) rfl rfl c1
    by_cases c4 : a = 1
    · refine br1 c4 ?_
      have d5 := eq_z (x := (Int32.toInt a)) (y := 1) rfl rfl c4
      exact hq _ trivial
    · refine br0 c4 ?_
      have d6 := ne_z (x := (Int32.toInt a)) (y := 1) rfl rfl c4
      by_cases c7 : a = 2
      · refine br1 c7 ?_
        have d8 := eq_z (x := (Int32.toInt a)) (y := 2) rfl rfl c7
        exact hq _ trivial
      · refine br0 c7 ?_
        have d9 := ne_z (x := (Int32.toInt a)) (y := 2) rfl rfl c7
        by_cases c10 : a = 3
        · refine br1 c10 ?_
          have d11 := eq_z (x := (Int32.toInt a)) (y := 3) rfl rfl c10
          refine s_J13_bitCount_95d88 h0_site_world_rock_dug  (fun r12 H13 => ?_)
          exact hq _ trivial
        · refine br0 c10 ?_
          have d14 := ne_z (x := (Int32.toInt a)) (y := 3) rfl rfl c10
          by_cases c15 : a = 4
          · refine br1 c15 ?_
            have d16 := eq_z (x := (Int32.toInt a)) (y := 4) rfl rfl c15
            exact hq _ trivial
          · refine br0 c15 ?_
            have d17 := ne_z (x := (Int32.toInt a)) (y := 4) rfl rfl c15
            by_cases c18 : a = 5
            · refine br1 c18 ?_
              have d19 := eq_z (x := (Int32.toInt a)) (y := 5) rfl rfl c18
              exact hq _ trivial
            · refine br0 c18 ?_
              have d20 := ne_z (x := (Int32.toInt a)) (y := 5) rfl rfl c18
              by_cases c21 : a = 6
              · refine br1 c21 ?_
                have d22 := eq_z (x := (Int32.toInt a)) (y := 6) rfl rfl c21
                exact hq _ trivial
              · refine br0 c21 ?_
                have d23 := ne_z (x := (Int32.toInt a)) (y := 6) rfl rfl c21
                by_cases c24 : a = 7
                · refine br1 c24 ?_
                  have d25 := eq_z (x := (Int32.toInt a)) (y := 7) rfl rfl c24
                  exact hq _ trivial
                · refine br0 c24 ?_
                  have d26 := ne_z (x := (Int32.toInt a)) (y := 7) rfl rfl c24
                  by_cases c27 : a = 8
                  · refine br1 c27 ?_
                    have d28 := eq_z (x := (Int32.toInt a)) (y := 8) rfl rfl c27
                    exact hq _ trivial
                  · refine br0 c27 ?_
                    have d29 := ne_z (x := (Int32.toInt a)) (y := 8) rfl rfl c27
                    by_cases c30 : a = 9
                    · refine br1 c30 ?_
                      have d31 := eq_z (x := (Int32.toInt a)) (y := 9) rfl rfl c30
                      exact hq _ trivial
                    · refine br0 c30 ?_
                      have d32 := ne_z (x := (Int32.toInt a)) (y := 9) rfl rfl c30
                      by_cases c33 : a = 10
                      · refine br1 c33 ?_
                        have d34 := eq_z (x := (Int32.toInt a)) (y := 10) rfl rfl c33
                        exact hq _ trivial
                      · refine br0 c33 ?_
                        have d35 := ne_z (x := (Int32.toInt a)) (y := 10) rfl rfl c33
                        by_cases c36 : a = 11
                        · refine br1 c36 ?_
                          have d37 := eq_z (x := (Int32.toInt a)) (y := 11) rfl rfl c36
                          exact hq _ trivial
                        · refine br0 c36 ?_
                          have d38 := ne_z (x := (Int32.toInt a)) (y := 11) rfl rfl c36
                          by_cases c39 : a = 12
                          · refine br1 c39 ?_
                            have d40 := eq_z (x := (Int32.toInt a)) (y := 12) rfl rfl c39
                            exact hq _ trivial
                          · refine br0 c39 ?_
                            have d41 := ne_z (x := (Int32.toInt a)) (y := 12) rfl rfl c39
                            by_cases c42 : a = 13
                            · refine br1 c42 ?_
                              have d43 := eq_z (x := (Int32.toInt a)) (y := 13) rfl rfl c42
                              exact hq _ trivial
                            · refine br0 c42 ?_
                              have d44 := ne_z (x := (Int32.toInt a)) (y := 13) rfl rfl c42
                              by_cases c45 : a = 14
                              · refine br1 c45 ?_
                                have d46 := eq_z (x := (Int32.toInt a)) (y := 14) rfl rfl c45
                                exact hq _ trivial
                              · refine br0 c45 ?_
                                have d47 := ne_z (x := (Int32.toInt a)) (y := 14) rfl rfl c45
                                by_cases c48 : a = 15
                                · refine br1 c48 ?_
                                  have d49 := eq_z (x := (Int32.toInt a)) (y := 15) rfl rfl c48
                                  have g50 : 0 ≤ (Int32.toInt (f_h0_site_world_term (0 : Int32).toNatClampNeg)) ∧ (Int32.toInt (f_h0_site_world_term (0 : Int32).toNatClampNeg)) ≤ 9999 := TE.at_0 h_f_h0_site_world_term (rfl : ((0 : Nat) : Int) = 0) (by omega) (by omega)
                                  exact hq _ trivial
                                · refine br0 c48 ?_
                                  have d51 := ne_z (x := (Int32.toInt a)) (y := 15) rfl rfl c48
                                  by_cases c52 : a = 16
                                  · refine br1 c52 ?_
                                    have d53 := eq_z (x := (Int32.toInt a)) (y := 16) rfl rfl c52
                                    have g54 : 0 ≤ (Int32.toInt (f_h0_site_world_term (1 : Int32).toNatClampNeg)) ∧ (Int32.toInt (f_h0_site_world_term (1 : Int32).toNatClampNeg)) ≤ 9999 := TE.at_0 h_f_h0_site_world_term (rfl : ((1 : Nat) : Int) = 1) (by omega) (by omega)
                                    exact hq _ trivial
                                  · refine br0 c52 ?_
                                    have d55 := ne_z (x := (Int32.toInt a)) (y := 16) rfl rfl c52
                                    by_cases c56 : a = 17
                                    · refine br1 c56 ?_
                                      have d57 := eq_z (x := (Int32.toInt a)) (y := 17) rfl rfl c56
                                      have g58 : 0 ≤ (Int32.toInt (f_h0_site_world_term (2 : Int32).toNatClampNeg)) ∧ (Int32.toInt (f_h0_site_world_term (2 : Int32).toNatClampNeg)) ≤ 9999 := TE.at_0 h_f_h0_site_world_term (rfl : ((2 : Nat) : Int) = 2) (by omega) (by omega)
                                      exact hq _ trivial
                                    · refine br0 c56 ?_
                                      have d59 := ne_z (x := (Int32.toInt a)) (y := 17) rfl rfl c56
                                      exact hq _ trivial


set_option maxRecDepth 100000 in
theorem s_X5_tellCell (b : Int32) (h0_length : Int32) (p0_dug : Int64) (f_h0_bytes : Nat → Int32) (f_p0_kind : Nat → Int32) (f_p0_hard : Nat → Int32) (f_p0_water : Nat → Int32) (h_h0_length : 0 ≤ h0_length.toInt ∧ h0_length.toInt ≤ 400) (h_f_h0_bytes : BY f_h0_bytes) (h_f_p0_kind : KI f_p0_kind) (h_f_p0_hard : HA f_p0_hard) (h_f_p0_water : WA f_p0_water) {Q : Int32 → ((Nat → Int32) × (Nat → Int32) × (Nat → Int32)) → Prop} (hq : ∀ (r : Int32) (u_0 : Nat → Int32) (u_1 : Nat → Int32) (u_2 : Nat → Int32), (0 ≤ r.toInt ∧ r.toInt ≤ 1) ∧ (KI u_0) ∧ (HA u_1) ∧ (WA u_2) → Q r (u_0, u_1, u_2)) : wp_X5_tellCell b h0_length p0_dug f_h0_bytes f_p0_kind f_p0_hard f_p0_water Q := by
  unfold wp_X5_tellCell
  by_cases c1 : b < 0
  · refine br1 c1 ?_
    have d2 := lt_z (x := (Int32.toInt b)) (y := 0) rfl rfl c1
    exact hq _ _ _ _ ⟨(by decide), h_f_p0_kind, h_f_p0_hard, h_f_p0_water⟩
  · refine br0 c1 ?_
    have d3 := nlt_z (x := (Int32.toInt b)) (y := 0) rfl rfl c1
    by_cases c4 : 40 ≤ b
    · refine br1 c4 ?_
      have d5 := le_z (x := 40) (y := (Int32.toInt b)) rfl rfl c4
      exact hq _ _ _ _ ⟨(by decide), h_f_p0_kind, h_f_p0_hard, h_f_p0_water⟩
    · refine br0 c4 ?_
      have d6 := nle_z (x := 40) (y := (Int32.toInt b)) rfl rfl c4
      by_cases c7 : h0_length < ((3 * b) + 3)
      · refine br1 c7 ?_
        have t8 : (Int32.toInt (3 * b)) = 3 * (Int32.toInt b) := mul_z rfl rfl (by omega) (by omega)
        have t9 : (Int32.toInt ((3 * b) + 3)) = (Int32.toInt (3 * b)) + 3 := add_z rfl rfl (by omega) (by omega)
        have d10 := lt_z (x := (Int32.toInt h0_length)) (y := (Int32.toInt ((3 * b) + 3))) rfl rfl c7
        exact hq _ _ _ _ ⟨(by decide), h_f_p0_kind, h_f_p0_hard, h_f_p0_water⟩
      · refine br0 c7 ?_
        have t11 : (Int32.toInt (3 * b)) = 3 * (Int32.toInt b) := mul_z rfl rfl (by omega) (by omega)
        have t12 : (Int32.toInt ((3 * b) + 3)) = (Int32.toInt (3 * b)) + 3 := add_z rfl rfl (by omega) (by omega)
        have d13 := nlt_z (x := (Int32.toInt h0_length)) (y := (Int32.toInt ((3 * b) + 3))) rfl rfl c7
        refine o_X6_isDug _ _ _ ?_
        by_cases c14 : (lg_cmp ((p0_dug >>> (b.toInt64 &&& 63)) &&& 1) 0) = 0
        · refine br1 c14 ?_
          have d15 := c_eq (x := (Int64.toInt ((p0_dug >>> (b.toInt64 &&& 63)) &&& 1))) (y := 0) rfl rfl c14
          refine br1 (by decide) ?_
          refine ⟨vpi (x := (Int32.toInt (3 * b))) rfl (by omega) (by omega), ?_⟩
          have t16 : (Int32.toInt ((3 * b) + 1)) = (Int32.toInt (3 * b)) + 1 := add_z rfl rfl (by omega) (by omega)
          refine ⟨vpi (x := (Int32.toInt ((3 * b) + 1))) rfl (by omega) (by omega), ?_⟩
          have t17 : (Int32.toInt ((3 * b) + 2)) = (Int32.toInt (3 * b)) + 2 := add_z rfl rfl (by omega) (by omega)
          refine ⟨vpi (x := (Int32.toInt ((3 * b) + 2))) rfl (by omega) (by omega), ?_⟩
          refine o_X6_canBe _ _ _ ?_
          refine br1 (by decide) ?_
          have g18 : 0 ≤ (Int32.toInt (f_h0_bytes (3 * b).toNatClampNeg)) ∧ (Int32.toInt (f_h0_bytes (3 * b).toNatClampNeg)) ≤ 255 := BY.at_0 h_f_h0_bytes (tnz (x := (Int32.toInt (3 * b))) rfl (by omega)) (by omega) (by omega)
          refine br0 (z_nlt (x := (Int32.toInt (f_h0_bytes (3 * b).toNatClampNeg))) (y := 0) rfl rfl (by omega)) ?_
          by_cases c19 : 3 < (f_h0_bytes (3 * b).toNatClampNeg)
          · refine br1 c19 ?_
            have d20 := lt_z (x := 3) (y := (Int32.toInt (f_h0_bytes (3 * b).toNatClampNeg))) rfl rfl c19
            refine br1 (by decide) ?_
            exact hq _ _ _ _ ⟨(by decide), h_f_p0_kind, h_f_p0_hard, h_f_p0_water⟩
          · refine br0 c19 ?_
            have d21 := nlt_z (x := 3) (y := (Int32.toInt (f_h0_bytes (3 * b).toNatClampNeg))) rfl rfl c19
            refine br0 (by decide) ?_
            refine o_X6_canBe _ _ _ ?_
            refine br0 (by decide) ?_
            refine br1 (by decide) ?_
            by_cases c22 : (f_h0_bytes ((3 * b) + 1).toNatClampNeg) < 1
            · refine br1 c22 ?_
              have g23 : 0 ≤ (Int32.toInt (f_h0_bytes ((3 * b) + 1).toNatClampNeg)) ∧ (Int32.toInt (f_h0_bytes ((3 * b) + 1).toNatClampNeg)) ≤ 255 := BY.at_0 h_f_h0_bytes (tnz (x := (Int32.toInt ((3 * b) + 1))) rfl (by omega)) (by omega) (by omega)
              have d24 := lt_z (x := (Int32.toInt (f_h0_bytes ((3 * b) + 1).toNatClampNeg))) (y := 1) rfl rfl c22
              refine br1 (by decide) ?_
              exact hq _ _ _ _ ⟨(by decide), h_f_p0_kind, h_f_p0_hard, h_f_p0_water⟩
            · refine br0 c22 ?_
              have g25 : 0 ≤ (Int32.toInt (f_h0_bytes ((3 * b) + 1).toNatClampNeg)) ∧ (Int32.toInt (f_h0_bytes ((3 * b) + 1).toNatClampNeg)) ≤ 255 := BY.at_0 h_f_h0_bytes (tnz (x := (Int32.toInt ((3 * b) + 1))) rfl (by omega)) (by omega) (by omega)
              have d26 := nlt_z (x := (Int32.toInt (f_h0_bytes ((3 * b) + 1).toNatClampNeg))) (y := 1) rfl rfl c22
              by_cases c27 : 9 < (f_h0_bytes ((3 * b) + 1).toNatClampNeg)
              · refine br1 c27 ?_
                have d28 := lt_z (x := 9) (y := (Int32.toInt (f_h0_bytes ((3 * b) + 1).toNatClampNeg))) rfl rfl c27
                refine br1 (by decide) ?_
                exact hq _ _ _ _ ⟨(by decide), h_f_p0_kind, h_f_p0_hard, h_f_p0_water⟩
              · refine br0 c27 ?_
                have d29 := nlt_z (x := 9) (y := (Int32.toInt (f_h0_bytes ((3 * b) + 1).toNatClampNeg))) rfl rfl c27
                refine br0 (by decide) ?_
                refine o_X6_canBe _ _ _ ?_
                refine br0 (by decide) ?_
                refine br0 (by decide) ?_
                refine br1 (by decide) ?_
                have g30 : 0 ≤ (Int32.toInt (f_h0_bytes ((3 * b) + 2).toNatClampNeg)) ∧ (Int32.toInt (f_h0_bytes ((3 * b) + 2).toNatClampNeg)) ≤ 255 := BY.at_0 h_f_h0_bytes (tnz (x := (Int32.toInt ((3 * b) + 2))) rfl (by omega)) (by omega) (by omega)
                refine br0 (z_nlt (x := (Int32.toInt (f_h0_bytes ((3 * b) + 2).toNatClampNeg))) (y := 0) rfl rfl (by omega)) ?_
                by_cases c31 : 99 < (f_h0_bytes ((3 * b) + 2).toNatClampNeg)
                · refine br1 c31 ?_
                  have d32 := lt_z (x := 99) (y := (Int32.toInt (f_h0_bytes ((3 * b) + 2).toNatClampNeg))) rfl rfl c31
                  refine br1 (by decide) ?_
                  exact hq _ _ _ _ ⟨(by decide), h_f_p0_kind, h_f_p0_hard, h_f_p0_water⟩
                · refine br0 c31 ?_
                  have d33 := nlt_z (x := 99) (y := (Int32.toInt (f_h0_bytes ((3 * b) + 2).toNatClampNeg))) rfl rfl c31
                  refine br0 (by decide) ?_
                  refine ⟨vpi (x := (Int32.toInt b)) rfl (by omega) (by omega), ?_⟩
                  refine ⟨vpi (x := (Int32.toInt b)) rfl (by omega) (by omega), ?_⟩
                  refine ⟨vpi (x := (Int32.toInt b)) rfl (by omega) (by omega), ?_⟩
                  have R34 : KI (upd f_p0_kind b.toNatClampNeg (f_h0_bytes (3 * b).toNatClampNeg)) := KI.up_0 h_f_p0_kind (tnz (x := (Int32.toInt b)) rfl (by omega)) (by omega) (by omega) (w := (Int32.toInt (f_h0_bytes (3 * b).toNatClampNeg))) rfl (by omega) (by omega)
                  have R35 : HA (upd f_p0_hard b.toNatClampNeg (f_h0_bytes ((3 * b) + 1).toNatClampNeg)) := HA.up_0 h_f_p0_hard (tnz (x := (Int32.toInt b)) rfl (by omega)) (by omega) (by omega) (w := (Int32.toInt (f_h0_bytes ((3 * b) + 1).toNatClampNeg))) rfl (by omega) (by omega)
                  have R36 : WA (upd f_p0_water b.toNatClampNeg (f_h0_bytes ((3 * b) + 2).toNatClampNeg)) := WA.up_0 h_f_p0_water (tnz (x := (Int32.toInt b)) rfl (by omega)) (by omega) (by omega) (w := (Int32.toInt (f_h0_bytes ((3 * b) + 2).toNatClampNeg))) rfl (by omega) (by omega)
                  exact hq _ _ _ _ ⟨(by decide), R34, R35, R36⟩
        · refine br0 c14 ?_
          have d37 := c_ne (x := (Int64.toInt ((p0_dug >>> (b.toInt64 &&& 63)) &&& 1))) (y := 0) rfl rfl c14
          refine br0 (by decide) ?_
          exact hq _ _ _ _ ⟨(by decide), h_f_p0_kind, h_f_p0_hard, h_f_p0_water⟩


set_option maxRecDepth 100000 in
theorem sl_X11_row_33 (h0_reader_length : Int32) (h0_site_world_rock_dug : Int64) (f_h0_reader_bytes : Nat → Int32) (h_h0_reader_length : 1 ≤ h0_reader_length.toInt ∧ h0_reader_length.toInt ≤ 400) (h_f_h0_reader_bytes : BY f_h0_reader_bytes) (Qb : Int32 → Int32 → (Nat → Int32) → (Nat → Int32) → (Nat → Int32) → Prop) (KX : ∀ (x_33_0 : Int32) (x_33_1 : Int32) (x_33_2 : Nat → Int32) (x_33_3 : Nat → Int32) (x_33_4 : Nat → Int32), (1 ≤ x_33_0.toInt ∧ x_33_0.toInt ≤ 134) ∧ (0 ≤ x_33_1.toInt ∧ x_33_1.toInt ≤ 134) ∧ (KI x_33_2) ∧ (HA x_33_3) ∧ (WA x_33_4) ∧ (x_33_1.toInt ≤ x_33_0.toInt) → Qb x_33_0 x_33_1 x_33_2 x_33_3 x_33_4) : ∀ (n : Nat) (x_33_0 : Int32) (x_33_1 : Int32) (x_33_2 : Nat → Int32) (x_33_3 : Nat → Int32) (x_33_4 : Nat → Int32), (0 ≤ x_33_0.toInt ∧ x_33_0.toInt ≤ 134) ∧ (0 ≤ x_33_1.toInt ∧ x_33_1.toInt ≤ 134) ∧ (KI x_33_2) ∧ (HA x_33_3) ∧ (WA x_33_4) ∧ (x_33_1.toInt ≤ x_33_0.toInt) → 135 - x_33_0.toInt < (n : Int) → wl_X11_row_33 h0_reader_length h0_site_world_rock_dug f_h0_reader_bytes Qb n x_33_0 x_33_1 x_33_2 x_33_3 x_33_4 := by
  intro n
  induction n with
  | zero =>
    intro x_33_0 x_33_1 x_33_2 x_33_3 x_33_4 hI hm
    exfalso; have hm : 135 - x_33_0.toInt < 0 := hm; omega
  | succ n ih =>
    intro x_33_0 x_33_1 x_33_2 x_33_3 x_33_4 hI hm
    have hm : 135 - x_33_0.toInt < (n : Int) + 1 := by simpa using hm
    have h_x_33_0 := hI.1
    have h_x_33_1 := hI.2.1
    have h_x_33_2 := hI.2.2.1
    have h_x_33_3 := hI.2.2.2.1
    have h_x_33_4 := hI.2.2.2.2.1
    have h_rel0 := hI.2.2.2.2.2
    unfold wl_X11_row_33
    by_cases c4 : ((h0_reader_length + 2) / 3) ≤ x_33_0
    · refine br1 c4 ?_
      have t5 : (Int32.toInt (h0_reader_length + 2)) = (Int32.toInt h0_reader_length) + 2 := add_z rfl rfl (by omega) (by omega)
      have t6 : (Int32.toInt ((h0_reader_length + 2) / 3)) = (Int32.toInt (h0_reader_length + 2)) / 3 := div_z rfl rfl (by omega) (by omega)
      have d7 := le_z (x := (Int32.toInt ((h0_reader_length + 2) / 3))) (y := (Int32.toInt x_33_0)) rfl rfl c4
      exact KX _ _ _ _ _ ⟨⟨by omega, by omega⟩, ⟨by omega, by omega⟩, h_x_33_2, h_x_33_3, h_x_33_4, (by omega)⟩
    · refine br0 c4 ?_
      have t8 : (Int32.toInt (h0_reader_length + 2)) = (Int32.toInt h0_reader_length) + 2 := add_z rfl rfl (by omega) (by omega)
      have t9 : (Int32.toInt ((h0_reader_length + 2) / 3)) = (Int32.toInt (h0_reader_length + 2)) / 3 := div_z rfl rfl (by omega) (by omega)
      have d10 := nle_z (x := (Int32.toInt ((h0_reader_length + 2) / 3))) (y := (Int32.toInt x_33_0)) rfl rfl c4
      refine s_X5_tellCell x_33_0 h0_reader_length h0_site_world_rock_dug (f_h0_reader_bytes) (x_33_2) (x_33_3) (x_33_4) ⟨by omega, by omega⟩ h_f_h0_reader_bytes h_x_33_2 h_x_33_3 h_x_33_4 (fun r11 u12_0 u12_1 u12_2 H13 => ?_)
      have j14 := H13.1
      have j15 := H13.2.1
      have j16 := H13.2.2.1
      have j17 := H13.2.2.2
      refine un3_i ?_
      by_cases c18 : r11 = 0
      · refine br1 c18 ?_
        have d19 := eq_z (x := (Int32.toInt r11)) (y := 0) rfl rfl c18
        have t20 : (Int32.toInt (x_33_0 + 1)) = (Int32.toInt x_33_0) + 1 := add_z rfl rfl (by omega) (by omega)
        exact ih _ _ _ _ _ ⟨⟨by omega, by omega⟩, ⟨by omega, by omega⟩, j15, j16, j17, (by omega)⟩ (by omega)
      · refine br0 c18 ?_
        have d21 := ne_z (x := (Int32.toInt r11)) (y := 0) rfl rfl c18
        have t22 : (Int32.toInt (x_33_0 + 1)) = (Int32.toInt x_33_0) + 1 := add_z rfl rfl (by omega) (by omega)
        have t23 : (Int32.toInt (x_33_1 + 1)) = (Int32.toInt x_33_1) + 1 := add_z rfl rfl (by omega) (by omega)
        exact ih _ _ _ _ _ ⟨⟨by omega, by omega⟩, ⟨by omega, by omega⟩, j15, j16, j17, (by omega)⟩ (by omega)
set_option maxRecDepth 100000 in
theorem s_X11_row (h0_latestMud : Int32) (h0_reader_length : Int32) (h0_site_world_rock_dug : Int64) (f_h0_reader_bytes : Nat → Int32) (f_h0_site_world_rock_kind : Nat → Int32) (f_h0_site_world_rock_hard : Nat → Int32) (f_h0_site_world_rock_water : Nat → Int32) (h0_site_diary_kept : Int32) (f_h0_refusals : Nat → Int32) (h_h0_reader_length : 0 ≤ h0_reader_length.toInt ∧ h0_reader_length.toInt ≤ 400) (h_f_h0_reader_bytes : BY f_h0_reader_bytes) (h_f_h0_site_world_rock_kind : KI f_h0_site_world_rock_kind) (h_f_h0_site_world_rock_hard : HA f_h0_site_world_rock_hard) (h_f_h0_site_world_rock_water : WA f_h0_site_world_rock_water) (h_h0_site_diary_kept : 0 ≤ h0_site_diary_kept.toInt ∧ h0_site_diary_kept.toInt ≤ 16) {Q : Int32 → (Int32 × Int32 × Int32 × (Nat → Int32) × (Nat → Int32) × (Nat → Int32) × Int32 × (Nat → Int32)) → Prop} (hq : ∀ (r : Int32) (u_0 : Int32) (u_1 : Int32) (u_2 : Int32) (u_3 : Nat → Int32) (u_4 : Nat → Int32) (u_5 : Nat → Int32) (u_6 : Int32) (u_7 : Nat → Int32), (0 ≤ u_2.toInt ∧ u_2.toInt ≤ 400) ∧ (KI u_3) ∧ (HA u_4) ∧ (WA u_5) ∧ (0 ≤ u_6.toInt ∧ u_6.toInt ≤ 16) → Q r (u_0, u_1, u_2, u_3, u_4, u_5, u_6, u_7)) : wp_X11_row h0_latestMud h0_reader_length h0_site_world_rock_dug f_h0_reader_bytes f_h0_site_world_rock_kind f_h0_site_world_rock_hard f_h0_site_world_rock_water h0_site_diary_kept f_h0_refusals Q := by
  unfold wp_X11_row
  by_cases c1 : h0_reader_length = 0
  · refine br1 c1 ?_
    have d2 := eq_z (x := (Int32.toInt h0_reader_length)) (y := 0) rfl rfl c1
    refine o_X11_settle _ _ _ ?_
    refine jn_s ?_
    refine br0 (by decide) ?_
    refine br0 (by decide) ?_
    refine br0 (by decide) ?_
    refine ⟨by unfold vp_in; decide, ?_⟩
    refine ⟨by unfold vp_in; decide, ?_⟩
    refine un2_i ?_
    exact hq _ _ _ _ _ _ _ _ _ ⟨⟨by omega, by omega⟩, h_f_h0_site_world_rock_kind, h_f_h0_site_world_rock_hard, h_f_h0_site_world_rock_water, ⟨by omega, by omega⟩⟩
  · refine br0 c1 ?_
    have d3 := ne_z (x := (Int32.toInt h0_reader_length)) (y := 0) rfl rfl c1
    have k6 : Int32.toInt 0 = 0 := rfl
    refine sl_X11_row_33 h0_reader_length h0_site_world_rock_dug (f_h0_reader_bytes) ⟨by omega, by omega⟩ h_f_h0_reader_bytes _ (fun x4_0 x4_1 x4_2 x4_3 x4_4 X5 => ?_) 1000000000000 0 0 (f_h0_site_world_rock_kind) (f_h0_site_world_rock_hard) (f_h0_site_world_rock_water) ⟨(by decide), (by decide), h_f_h0_site_world_rock_kind, h_f_h0_site_world_rock_hard, h_f_h0_site_world_rock_water, (by omega)⟩ (by omega)
    have j7 := X5.1
    have j8 := X5.2.1
    have j9 := X5.2.2.1
    have j10 := X5.2.2.2.1
    have j11 := X5.2.2.2.2.1
    have j12 := X5.2.2.2.2.2
    refine o_X2_clear _ ?_
    refine o_X11_settle _ _ _ ?_
    refine jn_s ?_
    refine br1 (z_le (x := 0) (y := (Int32.toInt x4_1)) rfl rfl (by omega)) ?_
    refine br1 (z_le (x := 0) (y := (Int32.toInt x4_1)) rfl rfl (by omega)) ?_
    refine un2_i ?_
    have t13 : (Int32.toInt (h0_reader_length + 2)) = (Int32.toInt h0_reader_length) + 2 := add_z rfl rfl (by omega) (by omega)
    have t14 : (Int32.toInt ((h0_reader_length + 2) / 3)) = (Int32.toInt (h0_reader_length + 2)) / 3 := div_z rfl rfl (by omega) (by omega)
    have t15 : (Int32.toInt (((h0_reader_length + 2) / 3) - x4_1)) = (Int32.toInt ((h0_reader_length + 2) / 3)) - (Int32.toInt x4_1) := sub_z rfl rfl (by omega) (by omega)
    exact hq _ _ _ _ _ _ _ _ _ ⟨(by decide), j9, j10, j11, (by decide)⟩


set_option maxRecDepth 100000 in
theorem s_X11_stepsTo (a : Int32) (b : Int32) (h_a : 0 ≤ a.toInt ∧ a.toInt ≤ 39) (h_b : 0 ≤ b.toInt ∧ b.toInt ≤ 7) {Q : Int32 → Prop} (hq : ∀ (r : Int32), (0 ≤ r.toInt ∧ r.toInt ≤ 20) → Q r) : wp_X11_stepsTo a b Q := by
  unfold wp_X11_stepsTo
  have t1 : (Int32.toInt (a - a / 8 * 8)) = (Int32.toInt a) % 8 := rem_z rfl rfl (by omega) (by omega)
  have t2 : (Int32.toInt ((a - a / 8 * 8) - b)) = (Int32.toInt (a - a / 8 * 8)) - (Int32.toInt b) := sub_z rfl rfl (by omega) (by omega)
  have t3 := ab_z (a := ((a - a / 8 * 8) - b)) (by omega)
  have t4 : (Int32.toInt (a / 8)) = (Int32.toInt a) / 8 := div_z rfl rfl (by omega) (by omega)
  have t5 : (Int32.toInt ((if 0 ≤ ((a - a / 8 * 8) - b) then ((a - a / 8 * 8) - b) else 0 - ((a - a / 8 * 8) - b)) + (a / 8))) = (Int32.toInt (if 0 ≤ ((a - a / 8 * 8) - b) then ((a - a / 8 * 8) - b) else 0 - ((a - a / 8 * 8) - b))) + (Int32.toInt (a / 8)) := add_z rfl rfl (by omega) (by omega)
  have t6 : (Int32.toInt (((if 0 ≤ ((a - a / 8 * 8) - b) then ((a - a / 8 * 8) - b) else 0 - ((a - a / 8 * 8) - b)) + (a / 8)) + 1)) = (Int32.toInt ((if 0 ≤ ((a - a / 8 * 8) - b) then ((a - a / 8 * 8) - b) else 0 - ((a - a / 8 * 8) - b)) + (a / 8))) + 1 := add_z rfl rfl (by omega) (by omega)
  exact hq _ ⟨by omega, by omega⟩


set_option maxRecDepth 100000 in
theorem s_X0_tells_N (b : Int32) {Q : Int32 → Prop} (hq : ∀ (r : Int32), True → Q r) : wp_X0_tells_N b Q := by
  unfold wp_X0_tells_N
  exact hq _ trivial


set_option maxRecDepth 100000 in
theorem s_X0_saysOf_N (a : Int32) (b : Int32) (h_a : 0 ≤ a.toInt ∧ a.toInt ≤ 39) {Q : Int32 → (Int32 × Int32 × Int32) → Prop} (hq : ∀ (r : Int32) (u_0 : Int32) (u_1 : Int32) (u_2 : Int32), (0 ≤ r.toInt ∧ r.toInt ≤ 99) ∧ (0 ≤ u_0.toInt ∧ u_0.toInt ≤ 39) → Q r (u_0, u_1, u_2)) : wp_X0_saysOf_N a b Q := by
  unfold wp_X0_saysOf_N
  refine o_X0_askOf_N _ _ _ _ ?_
  refine un3_i ?_
  refine s_X0_tells_N 20  (fun r1 H2 => ?_)
  refine o_X11_nearest _ _ _ _ ?_
  have t3 := mn_z (a := 99) (b := r1)
  have k4 : Int32.toInt 99 = 99 := rfl
  have t5 := mx_z (a := 0) (b := (if r1 < 99 then r1 else 99))
  have k6 : Int32.toInt 0 = 0 := rfl
  exact hq _ _ _ _ ⟨⟨by omega, by omega⟩, ⟨by omega, by omega⟩⟩


set_option maxRecDepth 100000 in
theorem s_X0_losesOf_N (a : Int32) (b : Int32) (h_a : 0 ≤ a.toInt ∧ a.toInt ≤ 39) {Q : Int32 → (Int32 × Int32 × Int32) → Prop} (hq : ∀ (r : Int32) (u_0 : Int32) (u_1 : Int32) (u_2 : Int32), (0 ≤ r.toInt ∧ r.toInt ≤ 9) ∧ (0 ≤ u_0.toInt ∧ u_0.toInt ≤ 39) → Q r (u_0, u_1, u_2)) : wp_X0_losesOf_N a b Q := by
  unfold wp_X0_losesOf_N
  refine o_X0_askOf_N _ _ _ _ ?_
  refine un3_i ?_
  refine s_X0_tells_N 2  (fun r1 H2 => ?_)
  refine o_X11_nearest _ _ _ _ ?_
  have t3 := mn_z (a := 9) (b := r1)
  have k4 : Int32.toInt 9 = 9 := rfl
  have t5 := mx_z (a := 0) (b := (if r1 < 9 then r1 else 9))
  have k6 : Int32.toInt 0 = 0 := rfl
  exact hq _ _ _ _ ⟨⟨by omega, by omega⟩, ⟨by omega, by omega⟩⟩


set_option maxRecDepth 100000 in
theorem s_X0_digsOf_N (a : Int32) (b : Int32) (f_h0_world_rock_kind : Nat → Int32) (f_h0_world_rock_hard : Nat → Int32) (h_b : 0 ≤ b.toInt ∧ b.toInt ≤ 39) (h_f_h0_world_rock_kind : KI f_h0_world_rock_kind) (h_f_h0_world_rock_hard : HA f_h0_world_rock_hard) {Q : Int32 → (Int32 × Int32 × Int32) → Prop} (hq : ∀ (r : Int32) (u_0 : Int32) (u_1 : Int32) (u_2 : Int32), (1 ≤ r.toInt ∧ r.toInt ≤ 99) ∧ (0 ≤ u_0.toInt ∧ u_0.toInt ≤ 39) → Q r (u_0, u_1, u_2)) : wp_X0_digsOf_N a b f_h0_world_rock_kind f_h0_world_rock_hard Q := by
  unfold wp_X0_digsOf_N
  refine ⟨vpi (x := (Int32.toInt b)) rfl (by omega) (by omega), ?_⟩
  refine o_X0_askOf_N _ _ _ _ ?_
  refine un3_i ?_
  refine ⟨vpi (x := (Int32.toInt b)) rfl (by omega) (by omega), ?_⟩
  refine s_X0_tells_N (f_h0_world_rock_hard b.toNatClampNeg)  (fun r1 H2 => ?_)
  refine o_X11_nearest _ _ _ _ ?_
  have t3 := mn_z (a := 99) (b := r1)
  have k4 : Int32.toInt 99 = 99 := rfl
  have t5 := mx_z (a := 1) (b := (if r1 < 99 then r1 else 99))
  have k6 : Int32.toInt 1 = 1 := rfl
  have g7 : 0 ≤ (Int32.toInt (f_h0_world_rock_kind b.toNatClampNeg)) ∧ (Int32.toInt (f_h0_world_rock_kind b.toNatClampNeg)) ≤ 3 := KI.at_0 h_f_h0_world_rock_kind (tnz (x := (Int32.toInt b)) rfl (by omega)) (by omega) (by omega)
  exact hq _ _ _ _ ⟨⟨by omega, by omega⟩, ⟨by omega, by omega⟩⟩


set_option maxRecDepth 100000 in
theorem s_X0_givesOf_N (a : Int32) (b : Int32) (f_h0_world_rock_kind : Nat → Int32) (f_h0_world_rock_water : Nat → Int32) (h_b : 0 ≤ b.toInt ∧ b.toInt ≤ 39) (h_f_h0_world_rock_kind : KI f_h0_world_rock_kind) (h_f_h0_world_rock_water : WA f_h0_world_rock_water) {Q : Int32 → (Int32 × Int32 × Int32) → Prop} (hq : ∀ (r : Int32) (u_0 : Int32) (u_1 : Int32) (u_2 : Int32), (0 ≤ r.toInt ∧ r.toInt ≤ 99) ∧ (0 ≤ u_0.toInt ∧ u_0.toInt ≤ 39) → Q r (u_0, u_1, u_2)) : wp_X0_givesOf_N a b f_h0_world_rock_kind f_h0_world_rock_water Q := by
  unfold wp_X0_givesOf_N
  refine ⟨vpi (x := (Int32.toInt b)) rfl (by omega) (by omega), ?_⟩
  refine o_X0_askOf_N _ _ _ _ ?_
  refine un3_i ?_
  refine s_X0_tells_N 5  (fun r1 H2 => ?_)
  refine o_X11_nearest _ _ _ _ ?_
  refine ⟨vpi (x := (Int32.toInt b)) rfl (by omega) (by omega), ?_⟩
  have t3 := mn_z (a := 99) (b := r1)
  have k4 : Int32.toInt 99 = 99 := rfl
  have t5 := mx_z (a := 0) (b := (if r1 < 99 then r1 else 99))
  have k6 : Int32.toInt 0 = 0 := rfl
  have g7 : 0 ≤ (Int32.toInt (f_h0_world_rock_water b.toNatClampNeg)) ∧ (Int32.toInt (f_h0_world_rock_water b.toNatClampNeg)) ≤ 99 := WA.at_0 h_f_h0_world_rock_water (tnz (x := (Int32.toInt b)) rfl (by omega)) (by omega) (by omega)
  have t8 := mn_z (a := (if 0 < (if r1 < 99 then r1 else 99) then (if r1 < 99 then r1 else 99) else 0)) (b := (f_h0_world_rock_water b.toNatClampNeg))
  have g9 : 0 ≤ (Int32.toInt (f_h0_world_rock_kind b.toNatClampNeg)) ∧ (Int32.toInt (f_h0_world_rock_kind b.toNatClampNeg)) ≤ 3 := KI.at_0 h_f_h0_world_rock_kind (tnz (x := (Int32.toInt b)) rfl (by omega)) (by omega) (by omega)
  exact hq _ _ _ _ ⟨⟨by omega, by omega⟩, ⟨by omega, by omega⟩⟩


set_option maxRecDepth 100000 in
theorem s_X0_passesOf_N (a : Int32) (b : Int32) (h0_cell : Int32) (h0_shaft : Int32) (h0_kind : Int32) (f_h0_world_rock_kind : Nat → Int32) (h_b : 0 ≤ b.toInt ∧ b.toInt ≤ 39) (h_h0_cell : 0 ≤ h0_cell.toInt ∧ h0_cell.toInt ≤ 39) (h_f_h0_world_rock_kind : KI f_h0_world_rock_kind) {Q : Int32 → (Int32 × Int32 × Int32) → Prop} (hq : ∀ (r : Int32) (u_0 : Int32) (u_1 : Int32) (u_2 : Int32), (0 ≤ r.toInt ∧ r.toInt ≤ 1) ∧ (0 ≤ u_0.toInt ∧ u_0.toInt ≤ 39) → Q r (u_0, u_1, u_2)) : wp_X0_passesOf_N a b h0_cell h0_shaft h0_kind f_h0_world_rock_kind Q := by
  unfold wp_X0_passesOf_N
  refine ⟨vpi (x := (Int32.toInt b)) rfl (by omega) (by omega), ?_⟩
  by_cases c1 : (f_h0_world_rock_kind b.toNatClampNeg) = 1
  · refine br1 c1 ?_
    have g2 : 0 ≤ (Int32.toInt (f_h0_world_rock_kind b.toNatClampNeg)) ∧ (Int32.toInt (f_h0_world_rock_kind b.toNatClampNeg)) ≤ 3 := KI.at_0 h_f_h0_world_rock_kind (tnz (x := (Int32.toInt b)) rfl (by omega)) (by omega) (by omega)
    have d3 := eq_z (x := (Int32.toInt (f_h0_world_rock_kind b.toNatClampNeg))) (y := 1) rfl rfl c1
    refine o_X0_askOf_N _ _ _ _ ?_
    refine un3_i ?_
    refine s_X0_tells_N 0  (fun r4 H5 => ?_)
    by_cases c6 : r4 = 1
    · refine br1 c6 ?_
      have d7 := eq_z (x := (Int32.toInt r4)) (y := 1) rfl rfl c6
      exact hq _ _ _ _ ⟨(by decide), ⟨by omega, by omega⟩⟩
    · refine br0 c6 ?_
      have d8 := ne_z (x := (Int32.toInt r4)) (y := 1) rfl rfl c6
      exact hq _ _ _ _ ⟨(by decide), ⟨by omega, by omega⟩⟩
  · refine br0 c1 ?_
    have g9 : 0 ≤ (Int32.toInt (f_h0_world_rock_kind b.toNatClampNeg)) ∧ (Int32.toInt (f_h0_world_rock_kind b.toNatClampNeg)) ≤ 3 := KI.at_0 h_f_h0_world_rock_kind (tnz (x := (Int32.toInt b)) rfl (by omega)) (by omega) (by omega)
    have d10 := ne_z (x := (Int32.toInt (f_h0_world_rock_kind b.toNatClampNeg))) (y := 1) rfl rfl c1
    exact hq _ _ _ _ ⟨(by decide), ⟨by omega, by omega⟩⟩


set_option maxRecDepth 100000 in
theorem s_X11_at_N (a : Int32) (b : Int32) (h0_site_world : Nat) (h0_site_world_lawCount : Int32) (h0_site_world_force : Int32) (f_h0_site_world_laws : Nat → Option Nat) (h0_asker_world : Value) (h0_asker_law : Value) (h0_asker_cell : Int32) (h0_asker_shaft : Int32) (h0_asker_kind : Int32) (h0_site_world_rock_dug : Int64) (f_h0_site_world_rock_kind : Nat → Int32) (f_h0_site_world_rock_hard : Nat → Int32) (f_h0_site_world_rock_water : Nat → Int32) (h_h0_site_world_lawCount : 0 ≤ h0_site_world_lawCount.toInt ∧ h0_site_world_lawCount.toInt ≤ 6) (h_h0_site_world_force : (-1) ≤ h0_site_world_force.toInt ∧ h0_site_world_force.toInt ≤ (-1)) (h_h0_asker_cell : 0 ≤ h0_asker_cell.toInt ∧ h0_asker_cell.toInt ≤ 39) (h_f_h0_site_world_rock_kind : KI f_h0_site_world_rock_kind) (h_f_h0_site_world_rock_hard : HA f_h0_site_world_rock_hard) (h_f_h0_site_world_rock_water : WA f_h0_site_world_rock_water) {Q : Int32 → (Value × Value × Int32 × Int32 × Int32) → Prop} (hq : ∀ (r : Int32) (u_0 : Value) (u_1 : Value) (u_2 : Int32) (u_3 : Int32) (u_4 : Int32), (0 ≤ u_2.toInt ∧ u_2.toInt ≤ 39) → Q r (u_0, u_1, u_2, u_3, u_4)) : wp_X11_at_N a b h0_site_world h0_site_world_lawCount h0_site_world_force f_h0_site_world_laws h0_asker_world h0_asker_law h0_asker_cell h0_asker_shaft h0_asker_kind h0_site_world_rock_dug f_h0_site_world_rock_kind f_h0_site_world_rock_hard f_h0_site_world_rock_water Q := by
  unfold wp_X11_at_N
  refine o_X11_isWithin _ _ _ ?_
  by_cases c1 : a < 0
  · refine br1 c1 ?_
    have d2 := lt_z (x := (Int32.toInt a)) (y := 0) rfl rfl c1
    refine br1 (by decide) ?_
    exact hq _ _ _ _ _ _ ⟨by omega, by omega⟩
  · refine br0 c1 ?_
    have d3 := nlt_z (x := (Int32.toInt a)) (y := 0) rfl rfl c1
    by_cases c4 : 40 ≤ a
    · refine br1 c4 ?_
      have d5 := le_z (x := 40) (y := (Int32.toInt a)) rfl rfl c4
      refine br1 (by decide) ?_
      exact hq _ _ _ _ _ _ ⟨by omega, by omega⟩
    · refine br0 c4 ?_
      have d6 := nle_z (x := 40) (y := (Int32.toInt a)) rfl rfl c4
      refine br0 (by decide) ?_
      refine o_X10_lawInForce_N _ _ _ _ ?_
      refine o_X10_lawOf_N _ _ _ _ ?_
      refine br1 (z_lt (x := (Int32.toInt h0_site_world_force)) (y := 0) rfl rfl (by omega)) ?_
      refine o_X0_turnTo_N _ ?_
      by_cases c7 : b = 0
      · refine br1 c7 ?_
        have d8 := eq_z (x := (Int32.toInt b)) (y := 0) rfl rfl c7
        refine ⟨vpi (x := (Int32.toInt a)) rfl (by omega) (by omega), ?_⟩
        have g9 : 0 ≤ (Int32.toInt (f_h0_site_world_rock_kind a.toNatClampNeg)) ∧ (Int32.toInt (f_h0_site_world_rock_kind a.toNatClampNeg)) ≤ 3 := KI.at_0 h_f_h0_site_world_rock_kind (tnz (x := (Int32.toInt a)) rfl (by omega)) (by omega) (by omega)
        exact hq _ _ _ _ _ _ ⟨by omega, by omega⟩
      · refine br0 c7 ?_
        have d10 := ne_z (x := (Int32.toInt b)) (y := 0) rfl rfl c7
        by_cases c11 : b = 1
        · refine br1 c11 ?_
          have d12 := eq_z (x := (Int32.toInt b)) (y := 1) rfl rfl c11
          refine ⟨vpi (x := (Int32.toInt a)) rfl (by omega) (by omega), ?_⟩
          have g13 : 1 ≤ (Int32.toInt (f_h0_site_world_rock_hard a.toNatClampNeg)) ∧ (Int32.toInt (f_h0_site_world_rock_hard a.toNatClampNeg)) ≤ 9 := HA.at_0 h_f_h0_site_world_rock_hard (tnz (x := (Int32.toInt a)) rfl (by omega)) (by omega) (by omega)
          exact hq _ _ _ _ _ _ ⟨by omega, by omega⟩
        · refine br0 c11 ?_
          have d14 := ne_z (x := (Int32.toInt b)) (y := 1) rfl rfl c11
          by_cases c15 : b = 2
          · refine br1 c15 ?_
            have d16 := eq_z (x := (Int32.toInt b)) (y := 2) rfl rfl c15
            refine ⟨vpi (x := (Int32.toInt a)) rfl (by omega) (by omega), ?_⟩
            have g17 : 0 ≤ (Int32.toInt (f_h0_site_world_rock_water a.toNatClampNeg)) ∧ (Int32.toInt (f_h0_site_world_rock_water a.toNatClampNeg)) ≤ 99 := WA.at_0 h_f_h0_site_world_rock_water (tnz (x := (Int32.toInt a)) rfl (by omega)) (by omega) (by omega)
            exact hq _ _ _ _ _ _ ⟨by omega, by omega⟩
          · refine br0 c15 ?_
            have d18 := ne_z (x := (Int32.toInt b)) (y := 2) rfl rfl c15
            by_cases c19 : b = 3
            · refine br1 c19 ?_
              have d20 := eq_z (x := (Int32.toInt b)) (y := 3) rfl rfl c19
              refine o_X6_isDug _ _ _ ?_
              by_cases c21 : (lg_cmp ((h0_site_world_rock_dug >>> (a.toInt64 &&& 63)) &&& 1) 0) = 0
              · refine br1 c21 ?_
                have d22 := c_eq (x := (Int64.toInt ((h0_site_world_rock_dug >>> (a.toInt64 &&& 63)) &&& 1))) (y := 0) rfl rfl c21
                refine br1 (by decide) ?_
                exact hq _ _ _ _ _ _ ⟨by omega, by omega⟩
              · refine br0 c21 ?_
                have d23 := c_ne (x := (Int64.toInt ((h0_site_world_rock_dug >>> (a.toInt64 &&& 63)) &&& 1))) (y := 0) rfl rfl c21
                refine br0 (by decide) ?_
                exact hq _ _ _ _ _ _ ⟨by omega, by omega⟩
            · refine br0 c19 ?_
              have d24 := ne_z (x := (Int32.toInt b)) (y := 3) rfl rfl c19
              by_cases c25 : b = 4
              · refine br1 c25 ?_
                have d26 := eq_z (x := (Int32.toInt b)) (y := 4) rfl rfl c25
                refine ⟨vpi (x := (Int32.toInt a)) rfl (by omega) (by omega), ?_⟩
                refine s_X0_saysOf_N a (f_h0_site_world_rock_kind a.toNatClampNeg) ⟨by omega, by omega⟩ (fun r27 u28_0 u28_1 u28_2 H29 => ?_)
                have j30 := H29.1
                have j31 := H29.2
                refine un3_i ?_
                exact hq _ _ _ _ _ _ ⟨by omega, by omega⟩
              · refine br0 c25 ?_
                have d32 := ne_z (x := (Int32.toInt b)) (y := 4) rfl rfl c25
                by_cases c33 : b = 5
                · refine br1 c33 ?_
                  have d34 := eq_z (x := (Int32.toInt b)) (y := 5) rfl rfl c33
                  refine ⟨vpi (x := (Int32.toInt a)) rfl (by omega) (by omega), ?_⟩
                  refine s_X0_losesOf_N a (f_h0_site_world_rock_kind a.toNatClampNeg) ⟨by omega, by omega⟩ (fun r35 u36_0 u36_1 u36_2 H37 => ?_)
                  have j38 := H37.1
                  have j39 := H37.2
                  refine un3_i ?_
                  exact hq _ _ _ _ _ _ ⟨by omega, by omega⟩
                · refine br0 c33 ?_
                  have d40 := ne_z (x := (Int32.toInt b)) (y := 5) rfl rfl c33
                  exact hq _ _ _ _ _ _ ⟨by omega, by omega⟩


set_option maxRecDepth 100000 in
theorem s_X11_asks_N (a : Int32) (b : Int32) (d : Int32) (h0_site_world : Nat) (h0_site_world_lawCount : Int32) (h0_site_world_force : Int32) (h0_site_world_crew_count : Int32) (f_h0_site_world_laws : Nat → Option Nat) (h0_asker_world : Value) (h0_asker_law : Value) (h0_asker_cell : Int32) (h0_asker_shaft : Int32) (h0_asker_kind : Int32) (f_h0_site_world_rock_kind : Nat → Int32) (f_h0_site_world_rock_hard : Nat → Int32) (f_h0_site_world_rock_water : Nat → Int32) (h_h0_site_world_lawCount : 0 ≤ h0_site_world_lawCount.toInt ∧ h0_site_world_lawCount.toInt ≤ 6) (h_h0_site_world_force : (-1) ≤ h0_site_world_force.toInt ∧ h0_site_world_force.toInt ≤ (-1)) (h_h0_site_world_crew_count : 0 ≤ h0_site_world_crew_count.toInt ∧ h0_site_world_crew_count.toInt ≤ 6) (h_h0_asker_cell : 0 ≤ h0_asker_cell.toInt ∧ h0_asker_cell.toInt ≤ 39) (h_f_h0_site_world_rock_kind : KI f_h0_site_world_rock_kind) (h_f_h0_site_world_rock_hard : HA f_h0_site_world_rock_hard) (h_f_h0_site_world_rock_water : WA f_h0_site_world_rock_water) {Q : Int32 → (Value × Value × Int32 × Int32 × Int32) → Prop} (hq : ∀ (r : Int32) (u_0 : Value) (u_1 : Value) (u_2 : Int32) (u_3 : Int32) (u_4 : Int32), (0 ≤ u_2.toInt ∧ u_2.toInt ≤ 39) → Q r (u_0, u_1, u_2, u_3, u_4)) : wp_X11_asks_N a b d h0_site_world h0_site_world_lawCount h0_site_world_force h0_site_world_crew_count f_h0_site_world_laws h0_asker_world h0_asker_law h0_asker_cell h0_asker_shaft h0_asker_kind f_h0_site_world_rock_kind f_h0_site_world_rock_hard f_h0_site_world_rock_water Q := by
  unfold wp_X11_asks_N
  refine o_X11_isWithin _ _ _ ?_
  by_cases c1 : a < 0
  · refine br1 c1 ?_
    have d2 := lt_z (x := (Int32.toInt a)) (y := 0) rfl rfl c1
    refine br1 (by decide) ?_
    exact hq _ _ _ _ _ _ ⟨by omega, by omega⟩
  · refine br0 c1 ?_
    have d3 := nlt_z (x := (Int32.toInt a)) (y := 0) rfl rfl c1
    by_cases c4 : h0_site_world_crew_count ≤ a
    · refine br1 c4 ?_
      have d5 := le_z (x := (Int32.toInt h0_site_world_crew_count)) (y := (Int32.toInt a)) rfl rfl c4
      refine br1 (by decide) ?_
      exact hq _ _ _ _ _ _ ⟨by omega, by omega⟩
    · refine br0 c4 ?_
      have d6 := nle_z (x := (Int32.toInt h0_site_world_crew_count)) (y := (Int32.toInt a)) rfl rfl c4
      refine br0 (by decide) ?_
      refine o_X11_isWithin _ _ _ ?_
      by_cases c7 : b < 0
      · refine br1 c7 ?_
        have d8 := lt_z (x := (Int32.toInt b)) (y := 0) rfl rfl c7
        refine br1 (by decide) ?_
        exact hq _ _ _ _ _ _ ⟨by omega, by omega⟩
      · refine br0 c7 ?_
        have d9 := nlt_z (x := (Int32.toInt b)) (y := 0) rfl rfl c7
        by_cases c10 : 40 ≤ b
        · refine br1 c10 ?_
          have d11 := le_z (x := 40) (y := (Int32.toInt b)) rfl rfl c10
          refine br1 (by decide) ?_
          exact hq _ _ _ _ _ _ ⟨by omega, by omega⟩
        · refine br0 c10 ?_
          have d12 := nle_z (x := 40) (y := (Int32.toInt b)) rfl rfl c10
          refine br0 (by decide) ?_
          refine o_X10_lawInForce_N _ _ _ _ ?_
          refine o_X10_lawOf_N _ _ _ _ ?_
          refine br1 (z_lt (x := (Int32.toInt h0_site_world_force)) (y := 0) rfl rfl (by omega)) ?_
          refine o_X0_turnTo_N _ ?_
          by_cases c13 : d = 0
          · refine br1 c13 ?_
            have d14 := eq_z (x := (Int32.toInt d)) (y := 0) rfl rfl c13
            refine s_X0_digsOf_N a b (f_h0_site_world_rock_kind) (f_h0_site_world_rock_hard) ⟨by omega, by omega⟩ h_f_h0_site_world_rock_kind h_f_h0_site_world_rock_hard (fun r15 u16_0 u16_1 u16_2 H17 => ?_)
            have j18 := H17.1
            have j19 := H17.2
            refine un3_i ?_
            exact hq _ _ _ _ _ _ ⟨by omega, by omega⟩
          · refine br0 c13 ?_
            have d20 := ne_z (x := (Int32.toInt d)) (y := 0) rfl rfl c13
            by_cases c21 : d = 1
            · refine br1 c21 ?_
              have d22 := eq_z (x := (Int32.toInt d)) (y := 1) rfl rfl c21
              refine s_X0_passesOf_N a b h0_asker_cell h0_asker_shaft h0_asker_kind (f_h0_site_world_rock_kind) ⟨by omega, by omega⟩ ⟨by omega, by omega⟩ h_f_h0_site_world_rock_kind (fun r23 u24_0 u24_1 u24_2 H25 => ?_)
              have j26 := H25.1
              have j27 := H25.2
              refine un3_i ?_
              by_cases c28 : r23 = 0
              · refine br1 c28 ?_
                have d29 := eq_z (x := (Int32.toInt r23)) (y := 0) rfl rfl c28
                exact hq _ _ _ _ _ _ ⟨by omega, by omega⟩
              · refine br0 c28 ?_
                have d30 := ne_z (x := (Int32.toInt r23)) (y := 0) rfl rfl c28
                exact hq _ _ _ _ _ _ ⟨by omega, by omega⟩
            · refine br0 c21 ?_
              have d31 := ne_z (x := (Int32.toInt d)) (y := 1) rfl rfl c21
              by_cases c32 : d = 2
              · refine br1 c32 ?_
                have d33 := eq_z (x := (Int32.toInt d)) (y := 2) rfl rfl c32
                refine s_X0_givesOf_N a b (f_h0_site_world_rock_kind) (f_h0_site_world_rock_water) ⟨by omega, by omega⟩ h_f_h0_site_world_rock_kind h_f_h0_site_world_rock_water (fun r34 u35_0 u35_1 u35_2 H36 => ?_)
                have j37 := H36.1
                have j38 := H36.2
                refine un3_i ?_
                exact hq _ _ _ _ _ _ ⟨by omega, by omega⟩
              · refine br0 c32 ?_
                have d39 := ne_z (x := (Int32.toInt d)) (y := 2) rfl rfl c32
                exact hq _ _ _ _ _ _ ⟨by omega, by omega⟩


set_option maxRecDepth 100000 in
theorem s_X11_loud_N (a : Int32) (b : Int32) (h0_site_world : Nat) (h0_site_world_lawCount : Int32) (h0_site_world_force : Int32) (f_h0_site_world_laws : Nat → Option Nat) (h0_asker_world : Value) (h0_asker_law : Value) (h0_asker_cell : Int32) (h0_asker_shaft : Int32) (h0_asker_kind : Int32) (f_h0_site_world_rock_kind : Nat → Int32) (h_h0_site_world_lawCount : 0 ≤ h0_site_world_lawCount.toInt ∧ h0_site_world_lawCount.toInt ≤ 6) (h_h0_site_world_force : (-1) ≤ h0_site_world_force.toInt ∧ h0_site_world_force.toInt ≤ (-1)) (h_h0_asker_cell : 0 ≤ h0_asker_cell.toInt ∧ h0_asker_cell.toInt ≤ 39) (h_f_h0_site_world_rock_kind : KI f_h0_site_world_rock_kind) {Q : Int32 → (Value × Value × Int32 × Int32 × Int32) → Prop} (hq : ∀ (r : Int32) (u_0 : Value) (u_1 : Value) (u_2 : Int32) (u_3 : Int32) (u_4 : Int32), (0 ≤ u_2.toInt ∧ u_2.toInt ≤ 39) → Q r (u_0, u_1, u_2, u_3, u_4)) : wp_X11_loud_N a b h0_site_world h0_site_world_lawCount h0_site_world_force f_h0_site_world_laws h0_asker_world h0_asker_law h0_asker_cell h0_asker_shaft h0_asker_kind f_h0_site_world_rock_kind Q := by
  unfold wp_X11_loud_N
  refine o_X11_isWithin _ _ _ ?_
  by_cases c1 : a < 0
  · refine br1 c1 ?_
    have d2 := lt_z (x := (Int32.toInt a)) (y := 0) rfl rfl c1
    refine br1 (by decide) ?_
    exact hq _ _ _ _ _ _ ⟨by omega, by omega⟩
  · refine br0 c1 ?_
    have d3 := nlt_z (x := (Int32.toInt a)) (y := 0) rfl rfl c1
    by_cases c4 : 40 ≤ a
    · refine br1 c4 ?_
      have d5 := le_z (x := 40) (y := (Int32.toInt a)) rfl rfl c4
      refine br1 (by decide) ?_
      exact hq _ _ _ _ _ _ ⟨by omega, by omega⟩
    · refine br0 c4 ?_
      have d6 := nle_z (x := 40) (y := (Int32.toInt a)) rfl rfl c4
      refine br0 (by decide) ?_
      refine o_X11_isWithin _ _ _ ?_
      by_cases c7 : b < 0
      · refine br1 c7 ?_
        have d8 := lt_z (x := (Int32.toInt b)) (y := 0) rfl rfl c7
        refine br1 (by decide) ?_
        exact hq _ _ _ _ _ _ ⟨by omega, by omega⟩
      · refine br0 c7 ?_
        have d9 := nlt_z (x := (Int32.toInt b)) (y := 0) rfl rfl c7
        by_cases c10 : 8 ≤ b
        · refine br1 c10 ?_
          have d11 := le_z (x := 8) (y := (Int32.toInt b)) rfl rfl c10
          refine br1 (by decide) ?_
          exact hq _ _ _ _ _ _ ⟨by omega, by omega⟩
        · refine br0 c10 ?_
          have d12 := nle_z (x := 8) (y := (Int32.toInt b)) rfl rfl c10
          refine br0 (by decide) ?_
          refine o_X10_lawInForce_N _ _ _ _ ?_
          refine o_X10_lawOf_N _ _ _ _ ?_
          refine br1 (z_lt (x := (Int32.toInt h0_site_world_force)) (y := 0) rfl rfl (by omega)) ?_
          refine o_X0_turnTo_N _ ?_
          refine ⟨vpi (x := (Int32.toInt a)) rfl (by omega) (by omega), ?_⟩
          refine s_X0_saysOf_N a (f_h0_site_world_rock_kind a.toNatClampNeg) ⟨by omega, by omega⟩ (fun r13 u14_0 u14_1 u14_2 H15 => ?_)
          have j16 := H15.1
          have j17 := H15.2
          refine un3_i ?_
          refine s_X11_stepsTo a b ⟨by omega, by omega⟩ ⟨by omega, by omega⟩ (fun r18 H19 => ?_)
          have j20 := H19
          refine s_X0_losesOf_N a (f_h0_site_world_rock_kind a.toNatClampNeg) ⟨by omega, by omega⟩ (fun r21 u22_0 u22_1 u22_2 H23 => ?_)
          have j24 := H23.1
          have j25 := H23.2
          refine un3_i ?_
          have t26 : 0 ≤ (Int32.toInt (r18 * r21)) ∧ (Int32.toInt (r18 * r21)) ≤ 180 := mul_b (x := (Int32.toInt r18)) (y := (Int32.toInt r21)) (X := 20) (Y := 9) rfl rfl (by omega) (by omega) (by omega) (by omega) (by decide)
          have t27 : (Int32.toInt (r13 - (r18 * r21))) = (Int32.toInt r13) - (Int32.toInt (r18 * r21)) := sub_z rfl rfl (by omega) (by omega)
          exact hq _ _ _ _ _ _ ⟨by omega, by omega⟩


set_option maxRecDepth 100000 in
theorem s_X3_measureCell_N (a : Int32) (f_h0_said : Nat → Int32) (f_h0_lost : Nat → Int32) (h_a : 0 ≤ a.toInt ∧ a.toInt ≤ 39) (h_f_h0_said : SA f_h0_said) (h_f_h0_lost : LO f_h0_lost) {Q : (Int32 × Int32 × Int32 × (Nat → Int32) × (Nat → Int32)) → Prop} (hq : ∀ (u_0 : Int32) (u_1 : Int32) (u_2 : Int32) (u_3 : Nat → Int32) (u_4 : Nat → Int32), (0 ≤ u_0.toInt ∧ u_0.toInt ≤ 39) ∧ (SA u_3) ∧ (LO u_4) → Q (u_0, u_1, u_2, u_3, u_4)) : wp_X3_measureCell_N a f_h0_said f_h0_lost Q := by
  unfold wp_X3_measureCell_N
  refine s_X0_saysOf_N a 3 ⟨by omega, by omega⟩ (fun r1 u2_0 u2_1 u2_2 H3 => ?_)
  have j4 := H3.1
  have j5 := H3.2
  refine un3_i ?_
  refine ⟨vpi (x := (Int32.toInt a)) rfl (by omega) (by omega), ?_⟩
  refine s_X0_losesOf_N a 3 ⟨by omega, by omega⟩ (fun r6 u7_0 u7_1 u7_2 H8 => ?_)
  have j9 := H8.1
  have j10 := H8.2
  refine un3_i ?_
  refine ⟨vpi (x := (Int32.toInt a)) rfl (by omega) (by omega), ?_⟩
  have R11 : SA (upd f_h0_said a.toNatClampNeg r1) := SA.up_0 h_f_h0_said (tnz (x := (Int32.toInt a)) rfl (by omega)) (by omega) (by omega) (w := (Int32.toInt r1)) rfl (by omega) (by omega)
  have R12 : LO (upd f_h0_lost a.toNatClampNeg r6) := LO.up_0 h_f_h0_lost (tnz (x := (Int32.toInt a)) rfl (by omega)) (by omega) (by omega) (w := (Int32.toInt r6)) rfl (by omega) (by omega)
  exact hq _ _ _ _ _ ⟨⟨by omega, by omega⟩, R11, R12⟩


set_option maxRecDepth 100000 in
theorem s_X3_loudness (a : Int32) (b : Int32) (f_h0_said : Nat → Int32) (f_h0_lost : Nat → Int32) (h_a : 0 ≤ a.toInt ∧ a.toInt ≤ 39) (h_b : 0 ≤ b.toInt ∧ b.toInt ≤ 7) (h_f_h0_said : SA f_h0_said) (h_f_h0_lost : LO f_h0_lost) {Q : Int32 → Prop} (hq : ∀ (r : Int32), ((-1000) ≤ r.toInt ∧ r.toInt ≤ 99) → Q r) : wp_X3_loudness a b f_h0_said f_h0_lost Q := by
  unfold wp_X3_loudness
  refine ⟨vpi (x := (Int32.toInt a)) rfl (by omega) (by omega), ?_⟩
  refine s_X11_stepsTo a b ⟨by omega, by omega⟩ ⟨by omega, by omega⟩ (fun r1 H2 => ?_)
  have j3 := H2
  refine ⟨vpi (x := (Int32.toInt a)) rfl (by omega) (by omega), ?_⟩
  have g4 : 0 ≤ (Int32.toInt (f_h0_said a.toNatClampNeg)) ∧ (Int32.toInt (f_h0_said a.toNatClampNeg)) ≤ 99 := SA.at_0 h_f_h0_said (tnz (x := (Int32.toInt a)) rfl (by omega)) (by omega) (by omega)
  have g5 : 0 ≤ (Int32.toInt (f_h0_lost a.toNatClampNeg)) ∧ (Int32.toInt (f_h0_lost a.toNatClampNeg)) ≤ 9 := LO.at_0 h_f_h0_lost (tnz (x := (Int32.toInt a)) rfl (by omega)) (by omega) (by omega)
  have t6 : 0 ≤ (Int32.toInt (r1 * (f_h0_lost a.toNatClampNeg))) ∧ (Int32.toInt (r1 * (f_h0_lost a.toNatClampNeg))) ≤ 180 := mul_b (x := (Int32.toInt r1)) (y := (Int32.toInt (f_h0_lost a.toNatClampNeg))) (X := 20) (Y := 9) rfl rfl (by omega) (by omega) (by omega) (by omega) (by decide)
  have t7 : (Int32.toInt ((f_h0_said a.toNatClampNeg) - (r1 * (f_h0_lost a.toNatClampNeg)))) = (Int32.toInt (f_h0_said a.toNatClampNeg)) - (Int32.toInt (r1 * (f_h0_lost a.toNatClampNeg))) := sub_z rfl rfl (by omega) (by omega)
  exact hq _ ⟨by omega, by omega⟩


set_option maxRecDepth 100000 in
theorem sl_X3_measure_N_11 (f_p0_rock_kind : Nat → Int32) (h_f_p0_rock_kind : KI f_p0_rock_kind) (Qb : Int32 → (Nat → Int32) → (Nat → Int32) → Int32 → Int32 → Int32 → Prop) (KX : ∀ (x_11_0 : Int32) (x_11_1 : Nat → Int32) (x_11_2 : Nat → Int32) (x_11_3 : Int32) (x_11_4 : Int32) (x_11_5 : Int32), (40 ≤ x_11_0.toInt ∧ x_11_0.toInt ≤ 40) ∧ (SA x_11_1) ∧ (LO x_11_2) ∧ (0 ≤ x_11_3.toInt ∧ x_11_3.toInt ≤ 39) → Qb x_11_0 x_11_1 x_11_2 x_11_3 x_11_4 x_11_5) : ∀ (n : Nat) (x_11_0 : Int32) (x_11_1 : Nat → Int32) (x_11_2 : Nat → Int32) (x_11_3 : Int32) (x_11_4 : Int32) (x_11_5 : Int32), (0 ≤ x_11_0.toInt ∧ x_11_0.toInt ≤ 40) ∧ (SA x_11_1) ∧ (LO x_11_2) ∧ (0 ≤ x_11_3.toInt ∧ x_11_3.toInt ≤ 39) → 41 - x_11_0.toInt < (n : Int) → wl_X3_measure_N_11 f_p0_rock_kind Qb n x_11_0 x_11_1 x_11_2 x_11_3 x_11_4 x_11_5 := by
  intro n
  induction n with
  | zero =>
    intro x_11_0 x_11_1 x_11_2 x_11_3 x_11_4 x_11_5 hI hm
    exfalso; have hm : 41 - x_11_0.toInt < 0 := hm; omega
  | succ n ih =>
    intro x_11_0 x_11_1 x_11_2 x_11_3 x_11_4 x_11_5 hI hm
    have hm : 41 - x_11_0.toInt < (n : Int) + 1 := by simpa using hm
    have h_x_11_0 := hI.1
    have h_x_11_1 := hI.2.1
    have h_x_11_2 := hI.2.2.1
    have h_x_11_3 := hI.2.2.2
    unfold wl_X3_measure_N_11
    by_cases c1 : 40 ≤ x_11_0
    · refine br1 c1 ?_
      have d2 := le_z (x := 40) (y := (Int32.toInt x_11_0)) rfl rfl c1
      exact KX _ _ _ _ _ _ ⟨⟨by omega, by omega⟩, h_x_11_1, h_x_11_2, ⟨by omega, by omega⟩⟩
    · refine br0 c1 ?_
      have d3 := nle_z (x := 40) (y := (Int32.toInt x_11_0)) rfl rfl c1
      refine ⟨vpi (x := (Int32.toInt x_11_0)) rfl (by omega) (by omega), ?_⟩
      by_cases c4 : (f_p0_rock_kind x_11_0.toNatClampNeg) = 3
      · refine br1 c4 ?_
        have g5 : 0 ≤ (Int32.toInt (f_p0_rock_kind x_11_0.toNatClampNeg)) ∧ (Int32.toInt (f_p0_rock_kind x_11_0.toNatClampNeg)) ≤ 3 := KI.at_0 h_f_p0_rock_kind (tnz (x := (Int32.toInt x_11_0)) rfl (by omega)) (by omega) (by omega)
        have d6 := eq_z (x := (Int32.toInt (f_p0_rock_kind x_11_0.toNatClampNeg))) (y := 3) rfl rfl c4
        refine s_X3_measureCell_N x_11_0 (x_11_1) (x_11_2) ⟨by omega, by omega⟩ h_x_11_1 h_x_11_2 (fun u7_0 u7_1 u7_2 u7_3 u7_4 H8 => ?_)
        have j9 := H8.1
        have j10 := H8.2.1
        have j11 := H8.2.2
        refine un5_i ?_
        have t12 : (Int32.toInt (x_11_0 + 1)) = (Int32.toInt x_11_0) + 1 := add_z rfl rfl (by omega) (by omega)
        exact ih _ _ _ _ _ _ ⟨⟨by omega, by omega⟩, j10, j11, ⟨by omega, by omega⟩⟩ (by omega)
      · refine br0 c4 ?_
        have g13 : 0 ≤ (Int32.toInt (f_p0_rock_kind x_11_0.toNatClampNeg)) ∧ (Int32.toInt (f_p0_rock_kind x_11_0.toNatClampNeg)) ≤ 3 := KI.at_0 h_f_p0_rock_kind (tnz (x := (Int32.toInt x_11_0)) rfl (by omega)) (by omega) (by omega)
        have d14 := ne_z (x := (Int32.toInt (f_p0_rock_kind x_11_0.toNatClampNeg))) (y := 3) rfl rfl c4
        have t15 : (Int32.toInt (x_11_0 + 1)) = (Int32.toInt x_11_0) + 1 := add_z rfl rfl (by omega) (by omega)
        exact ih _ _ _ _ _ _ ⟨⟨by omega, by omega⟩, h_x_11_1, h_x_11_2, ⟨by omega, by omega⟩⟩ (by omega)
set_option maxRecDepth 100000 in
theorem s_X3_measure_N (h0_asker_cell : Int32) (h0_asker_shaft : Int32) (h0_asker_kind : Int32) (f_p0_rock_kind : Nat → Int32) (f_h0_said : Nat → Int32) (f_h0_lost : Nat → Int32) (h_h0_asker_cell : 0 ≤ h0_asker_cell.toInt ∧ h0_asker_cell.toInt ≤ 39) (h_f_p0_rock_kind : KI f_p0_rock_kind) (h_f_h0_said : SA f_h0_said) (h_f_h0_lost : LO f_h0_lost) {Q : (Int32 × Int32 × Int32 × (Nat → Int32) × (Nat → Int32)) → Prop} (hq : ∀ (u_0 : Int32) (u_1 : Int32) (u_2 : Int32) (u_3 : Nat → Int32) (u_4 : Nat → Int32), (0 ≤ u_0.toInt ∧ u_0.toInt ≤ 39) ∧ (SA u_3) ∧ (LO u_4) → Q (u_0, u_1, u_2, u_3, u_4)) : wp_X3_measure_N h0_asker_cell h0_asker_shaft h0_asker_kind f_p0_rock_kind f_h0_said f_h0_lost Q := by
  unfold wp_X3_measure_N
  refine o_X0_turnTo_N _ ?_
  have k3 : Int32.toInt 0 = 0 := rfl
  refine sl_X3_measure_N_11 (f_p0_rock_kind) h_f_p0_rock_kind _ (fun x1_0 x1_1 x1_2 x1_3 x1_4 x1_5 X2 => ?_) 1000000000000 0 (f_h0_said) (f_h0_lost) h0_asker_cell h0_asker_shaft h0_asker_kind ⟨(by decide), h_f_h0_said, h_f_h0_lost, ⟨by omega, by omega⟩⟩ (by omega)
  have j4 := X2.1
  have j5 := X2.2.1
  have j6 := X2.2.2.1
  have j7 := X2.2.2.2
  exact hq _ _ _ _ _ ⟨⟨by omega, by omega⟩, j5, j6⟩


set_option maxRecDepth 100000 in
theorem sl_X3_cellsHeardBy_27 (b : Int32) (f_p0_folk_column : Nat → Int32) (f_p0_rock_kind : Nat → Int32) (f_h0_said : Nat → Int32) (f_h0_lost : Nat → Int32) (f_p0_folk_ear : Nat → Int32) (r_16 : Int32) (h_b : 0 ≤ b.toInt ∧ b.toInt ≤ 4) (h_f_p0_folk_column : CO f_p0_folk_column) (h_f_p0_rock_kind : KI f_p0_rock_kind) (h_f_h0_said : SA f_h0_said) (h_f_h0_lost : LO f_h0_lost) (h_f_p0_folk_ear : EA f_p0_folk_ear) (Qb : Int32 → Int64 → Prop) (KX : ∀ (x_27_0 : Int32) (x_27_1 : Int64), (40 ≤ x_27_0.toInt ∧ x_27_0.toInt ≤ 40) → Qb x_27_0 x_27_1) : ∀ (n : Nat) (x_27_0 : Int32) (x_27_1 : Int64), (0 ≤ x_27_0.toInt ∧ x_27_0.toInt ≤ 40) → 41 - x_27_0.toInt < (n : Int) → wl_X3_cellsHeardBy_27 b f_p0_folk_column f_p0_rock_kind f_h0_said f_h0_lost f_p0_folk_ear r_16 Qb n x_27_0 x_27_1 := by
  intro n
  induction n with
  | zero =>
    intro x_27_0 x_27_1 hI hm
    exfalso; have hm : 41 - x_27_0.toInt < 0 := hm; omega
  | succ n ih =>
    intro x_27_0 x_27_1 hI hm
    have hm : 41 - x_27_0.toInt < (n : Int) + 1 := by simpa using hm
    have h_x_27_0 := hI
    unfold wl_X3_cellsHeardBy_27
    by_cases c4 : 40 ≤ x_27_0
    · refine br1 c4 ?_
      have d5 := le_z (x := 40) (y := (Int32.toInt x_27_0)) rfl rfl c4
      exact KX _ _ ⟨by omega, by omega⟩
    · refine br0 c4 ?_
      have d6 := nle_z (x := 40) (y := (Int32.toInt x_27_0)) rfl rfl c4
      refine ⟨vpi (x := (Int32.toInt x_27_0)) rfl (by omega) (by omega), ?_⟩
      by_cases c7 : (f_p0_rock_kind x_27_0.toNatClampNeg) = 3
      · refine br1 c7 ?_
        have g8 : 0 ≤ (Int32.toInt (f_p0_rock_kind x_27_0.toNatClampNeg)) ∧ (Int32.toInt (f_p0_rock_kind x_27_0.toNatClampNeg)) ≤ 3 := KI.at_0 h_f_p0_rock_kind (tnz (x := (Int32.toInt x_27_0)) rfl (by omega)) (by omega) (by omega)
        have d9 := eq_z (x := (Int32.toInt (f_p0_rock_kind x_27_0.toNatClampNeg))) (y := 3) rfl rfl c7
        have g10 : 0 ≤ (Int32.toInt (f_p0_folk_column b.toNatClampNeg)) ∧ (Int32.toInt (f_p0_folk_column b.toNatClampNeg)) ≤ 7 := CO.at_0 h_f_p0_folk_column (tnz (x := (Int32.toInt b)) rfl (by omega)) (by omega) (by omega)
        refine s_X3_loudness x_27_0 (f_p0_folk_column b.toNatClampNeg) (f_h0_said) (f_h0_lost) ⟨by omega, by omega⟩ ⟨by omega, by omega⟩ h_f_h0_said h_f_h0_lost (fun r11 H12 => ?_)
        have j13 := H12
        refine ⟨vpi (x := (Int32.toInt b)) rfl (by omega) (by omega), ?_⟩
        by_cases c14 : (r11 + (f_p0_folk_ear b.toNatClampNeg)) ≤ r_16
        · refine br1 c14 ?_
          have g15 : 0 ≤ (Int32.toInt (f_p0_folk_ear b.toNatClampNeg)) ∧ (Int32.toInt (f_p0_folk_ear b.toNatClampNeg)) ≤ 20 := EA.at_0 h_f_p0_folk_ear (tnz (x := (Int32.toInt b)) rfl (by omega)) (by omega) (by omega)
          have t16 : (Int32.toInt (r11 + (f_p0_folk_ear b.toNatClampNeg))) = (Int32.toInt r11) + (Int32.toInt (f_p0_folk_ear b.toNatClampNeg)) := add_z rfl rfl (by omega) (by omega)
          have d17 := le_z (x := (Int32.toInt (r11 + (f_p0_folk_ear b.toNatClampNeg)))) (y := (Int32.toInt r_16)) rfl rfl c14
          have t18 : (Int32.toInt (x_27_0 + 1)) = (Int32.toInt x_27_0) + 1 := add_z rfl rfl (by omega) (by omega)
          exact ih _ _ ⟨by omega, by omega⟩ (by omega)
        · refine br0 c14 ?_
          have g19 : 0 ≤ (Int32.toInt (f_p0_folk_ear b.toNatClampNeg)) ∧ (Int32.toInt (f_p0_folk_ear b.toNatClampNeg)) ≤ 20 := EA.at_0 h_f_p0_folk_ear (tnz (x := (Int32.toInt b)) rfl (by omega)) (by omega) (by omega)
          have t20 : (Int32.toInt (r11 + (f_p0_folk_ear b.toNatClampNeg))) = (Int32.toInt r11) + (Int32.toInt (f_p0_folk_ear b.toNatClampNeg)) := add_z rfl rfl (by omega) (by omega)
          have d21 := nle_z (x := (Int32.toInt (r11 + (f_p0_folk_ear b.toNatClampNeg)))) (y := (Int32.toInt r_16)) rfl rfl c14
          have t22 : (Int32.toInt (x_27_0 + 1)) = (Int32.toInt x_27_0) + 1 := add_z rfl rfl (by omega) (by omega)
          exact ih _ _ ⟨by omega, by omega⟩ (by omega)
      · refine br0 c7 ?_
        have g23 : 0 ≤ (Int32.toInt (f_p0_rock_kind x_27_0.toNatClampNeg)) ∧ (Int32.toInt (f_p0_rock_kind x_27_0.toNatClampNeg)) ≤ 3 := KI.at_0 h_f_p0_rock_kind (tnz (x := (Int32.toInt x_27_0)) rfl (by omega)) (by omega) (by omega)
        have d24 := ne_z (x := (Int32.toInt (f_p0_rock_kind x_27_0.toNatClampNeg))) (y := 3) rfl rfl c7
        have t25 : (Int32.toInt (x_27_0 + 1)) = (Int32.toInt x_27_0) + 1 := add_z rfl rfl (by omega) (by omega)
        exact ih _ _ ⟨by omega, by omega⟩ (by omega)
set_option maxRecDepth 100000 in
theorem s_X3_cellsHeardBy (b : Int32) (p0_folk_noises : Int32) (p0_folk_hushed : Int32) (f_p0_folk_column : Nat → Int32) (f_p0_folk_noiseColumn : Nat → Int32) (f_p0_folk_noiseLoud : Nat → Int32) (f_p0_rock_kind : Nat → Int32) (f_h0_said : Nat → Int32) (f_h0_lost : Nat → Int32) (f_p0_folk_ear : Nat → Int32) (h_b : 0 ≤ b.toInt ∧ b.toInt ≤ 4) (h_p0_folk_noises : 0 ≤ p0_folk_noises.toInt ∧ p0_folk_noises.toInt ≤ 6) (h_f_p0_folk_column : CO f_p0_folk_column) (h_f_p0_folk_noiseColumn : NC f_p0_folk_noiseColumn) (h_f_p0_folk_noiseLoud : NL f_p0_folk_noiseLoud) (h_f_p0_rock_kind : KI f_p0_rock_kind) (h_f_h0_said : SA f_h0_said) (h_f_h0_lost : LO f_h0_lost) (h_f_p0_folk_ear : EA f_p0_folk_ear) {Q : Int64 → Prop} (hq : ∀ (r : Int64), True → Q r) : wp_X3_cellsHeardBy b p0_folk_noises p0_folk_hushed f_p0_folk_column f_p0_folk_noiseColumn f_p0_folk_noiseLoud f_p0_rock_kind f_h0_said f_h0_lost f_p0_folk_ear Q := by
  unfold wp_X3_cellsHeardBy
  refine ⟨vpi (x := (Int32.toInt b)) rfl (by omega) (by omega), ?_⟩
  have g1 : 0 ≤ (Int32.toInt (f_p0_folk_column b.toNatClampNeg)) ∧ (Int32.toInt (f_p0_folk_column b.toNatClampNeg)) ≤ 7 := CO.at_0 h_f_p0_folk_column (tnz (x := (Int32.toInt b)) rfl (by omega)) (by omega) (by omega)
  refine s_X4_noiseIn (f_p0_folk_column b.toNatClampNeg) 0 p0_folk_noises p0_folk_hushed (f_p0_folk_noiseColumn) (f_p0_folk_noiseLoud) ⟨by omega, by omega⟩ ⟨by omega, by omega⟩ h_f_p0_folk_noiseColumn h_f_p0_folk_noiseLoud (fun r2 H3 => ?_)
  have k6 : Int32.toInt 0 = 0 := rfl
  have k7 : Int64.toInt 0 = 0 := rfl
  refine sl_X3_cellsHeardBy_27 b (f_p0_folk_column) (f_p0_rock_kind) (f_h0_said) (f_h0_lost) (f_p0_folk_ear) r2 ⟨by omega, by omega⟩ h_f_p0_folk_column h_f_p0_rock_kind h_f_h0_said h_f_h0_lost h_f_p0_folk_ear _ (fun x4_0 x4_1 X5 => ?_) 1000000000000 0 0 (by decide) (by omega)
  have j8 := X5
  exact hq _ trivial


set_option maxRecDepth 100000 in
theorem s_X11_hears_N (a : Int32) (h0_site_world : Nat) (h0_site_world_lawCount : Int32) (h0_site_world_force : Int32) (h0_site_world_folk_listeners : Int32) (h0_site_world_folk_noises : Int32) (h0_site_world_folk_hushed : Int32) (f_h0_site_world_laws : Nat → Option Nat) (h0_asker_world : Value) (h0_asker_law : Value) (h0_asker_cell : Int32) (h0_asker_shaft : Int32) (h0_asker_kind : Int32) (f_h0_site_world_rock_kind : Nat → Int32) (f_h0_ears_said : Nat → Int32) (f_h0_ears_lost : Nat → Int32) (f_h0_site_world_folk_column : Nat → Int32) (f_h0_site_world_folk_noiseColumn : Nat → Int32) (f_h0_site_world_folk_noiseLoud : Nat → Int32) (f_h0_site_world_folk_ear : Nat → Int32) (h_h0_site_world_lawCount : 0 ≤ h0_site_world_lawCount.toInt ∧ h0_site_world_lawCount.toInt ≤ 6) (h_h0_site_world_force : (-1) ≤ h0_site_world_force.toInt ∧ h0_site_world_force.toInt ≤ (-1)) (h_h0_site_world_folk_listeners : 0 ≤ h0_site_world_folk_listeners.toInt ∧ h0_site_world_folk_listeners.toInt ≤ 5) (h_h0_site_world_folk_noises : 0 ≤ h0_site_world_folk_noises.toInt ∧ h0_site_world_folk_noises.toInt ≤ 6) (h_h0_asker_cell : 0 ≤ h0_asker_cell.toInt ∧ h0_asker_cell.toInt ≤ 39) (h_f_h0_site_world_rock_kind : KI f_h0_site_world_rock_kind) (h_f_h0_ears_said : SA f_h0_ears_said) (h_f_h0_ears_lost : LO f_h0_ears_lost) (h_f_h0_site_world_folk_column : CO f_h0_site_world_folk_column) (h_f_h0_site_world_folk_noiseColumn : NC f_h0_site_world_folk_noiseColumn) (h_f_h0_site_world_folk_noiseLoud : NL f_h0_site_world_folk_noiseLoud) (h_f_h0_site_world_folk_ear : EA f_h0_site_world_folk_ear) {Q : Int64 → (Value × Value × Int32 × Int32 × Int32 × (Nat → Int32) × (Nat → Int32)) → Prop} (hq : ∀ (r : Int64) (u_0 : Value) (u_1 : Value) (u_2 : Int32) (u_3 : Int32) (u_4 : Int32) (u_5 : Nat → Int32) (u_6 : Nat → Int32), (0 ≤ u_2.toInt ∧ u_2.toInt ≤ 39) ∧ (SA u_5) ∧ (LO u_6) → Q r (u_0, u_1, u_2, u_3, u_4, u_5, u_6)) : wp_X11_hears_N a h0_site_world h0_site_world_lawCount h0_site_world_force h0_site_world_folk_listeners h0_site_world_folk_noises h0_site_world_folk_hushed f_h0_site_world_laws h0_asker_world h0_asker_law h0_asker_cell h0_asker_shaft h0_asker_kind f_h0_site_world_rock_kind f_h0_ears_said f_h0_ears_lost f_h0_site_world_folk_column f_h0_site_world_folk_noiseColumn f_h0_site_world_folk_noiseLoud f_h0_site_world_folk_ear Q := by
  unfold wp_X11_hears_N
  refine o_X11_isWithin _ _ _ ?_
  by_cases c1 : a < 0
  · refine br1 c1 ?_
    have d2 := lt_z (x := (Int32.toInt a)) (y := 0) rfl rfl c1
    refine br1 (by decide) ?_
    exact hq _ _ _ _ _ _ _ _ ⟨⟨by omega, by omega⟩, h_f_h0_ears_said, h_f_h0_ears_lost⟩
  · refine br0 c1 ?_
    have d3 := nlt_z (x := (Int32.toInt a)) (y := 0) rfl rfl c1
    by_cases c4 : h0_site_world_folk_listeners ≤ a
    · refine br1 c4 ?_
      have d5 := le_z (x := (Int32.toInt h0_site_world_folk_listeners)) (y := (Int32.toInt a)) rfl rfl c4
      refine br1 (by decide) ?_
      exact hq _ _ _ _ _ _ _ _ ⟨⟨by omega, by omega⟩, h_f_h0_ears_said, h_f_h0_ears_lost⟩
    · refine br0 c4 ?_
      have d6 := nle_z (x := (Int32.toInt h0_site_world_folk_listeners)) (y := (Int32.toInt a)) rfl rfl c4
      refine br0 (by decide) ?_
      refine o_X10_lawInForce_N _ _ _ _ ?_
      refine o_X10_lawOf_N _ _ _ _ ?_
      refine br1 (z_lt (x := (Int32.toInt h0_site_world_force)) (y := 0) rfl rfl (by omega)) ?_
      refine s_X3_measure_N h0_asker_cell h0_asker_shaft h0_asker_kind (f_h0_site_world_rock_kind) (f_h0_ears_said) (f_h0_ears_lost) ⟨by omega, by omega⟩ h_f_h0_site_world_rock_kind h_f_h0_ears_said h_f_h0_ears_lost (fun u7_0 u7_1 u7_2 u7_3 u7_4 H8 => ?_)
      have j9 := H8.1
      have j10 := H8.2.1
      have j11 := H8.2.2
      refine un5_i ?_
      refine s_X3_cellsHeardBy a h0_site_world_folk_noises h0_site_world_folk_hushed (f_h0_site_world_folk_column) (f_h0_site_world_folk_noiseColumn) (f_h0_site_world_folk_noiseLoud) (f_h0_site_world_rock_kind) (u7_3) (u7_4) (f_h0_site_world_folk_ear) ⟨by omega, by omega⟩ ⟨by omega, by omega⟩ h_f_h0_site_world_folk_column h_f_h0_site_world_folk_noiseColumn h_f_h0_site_world_folk_noiseLoud h_f_h0_site_world_rock_kind j10 j11 h_f_h0_site_world_folk_ear (fun r12 H13 => ?_)
      exact hq _ _ _ _ _ _ _ _ ⟨⟨by omega, by omega⟩, j10, j11⟩


set_option maxRecDepth 100000 in
theorem sl_X11_compare_N_36 (f_h0_site_world_rock_kind : Nat → Int32) (h0_site_world_folk_listeners : Int32) (h0_site_world_folk_noises : Int32) (h0_site_world_folk_hushed : Int32) (f_h0_site_world_folk_column : Nat → Int32) (f_h0_site_world_folk_noiseColumn : Nat → Int32) (f_h0_site_world_folk_noiseLoud : Nat → Int32) (f_h0_site_world_folk_ear : Nat → Int32) (u_28_3 : Nat → Int32) (u_28_4 : Nat → Int32) (h_f_h0_site_world_rock_kind : KI f_h0_site_world_rock_kind) (h_h0_site_world_folk_listeners : 0 ≤ h0_site_world_folk_listeners.toInt ∧ h0_site_world_folk_listeners.toInt ≤ 5) (h_h0_site_world_folk_noises : 0 ≤ h0_site_world_folk_noises.toInt ∧ h0_site_world_folk_noises.toInt ≤ 6) (h_f_h0_site_world_folk_column : CO f_h0_site_world_folk_column) (h_f_h0_site_world_folk_noiseColumn : NC f_h0_site_world_folk_noiseColumn) (h_f_h0_site_world_folk_noiseLoud : NL f_h0_site_world_folk_noiseLoud) (h_f_h0_site_world_folk_ear : EA f_h0_site_world_folk_ear) (h_u_28_3 : SA u_28_3) (h_u_28_4 : LO u_28_4) (Qb : Int32 → Int32 → Prop) (KX : ∀ (x_36_0 : Int32) (x_36_1 : Int32), (0 ≤ x_36_0.toInt ∧ x_36_0.toInt ≤ 5) → Qb x_36_0 x_36_1) : ∀ (n : Nat) (x_36_0 : Int32) (x_36_1 : Int32), (0 ≤ x_36_0.toInt ∧ x_36_0.toInt ≤ 5) → 6 - x_36_0.toInt < (n : Int) → wl_X11_compare_N_36 f_h0_site_world_rock_kind h0_site_world_folk_listeners h0_site_world_folk_noises h0_site_world_folk_hushed f_h0_site_world_folk_column f_h0_site_world_folk_noiseColumn f_h0_site_world_folk_noiseLoud f_h0_site_world_folk_ear u_28_3 u_28_4 Qb n x_36_0 x_36_1 := by
  intro n
  induction n with
  | zero =>
    intro x_36_0 x_36_1 hI hm
    exfalso; have hm : 6 - x_36_0.toInt < 0 := hm; omega
  | succ n ih =>
    intro x_36_0 x_36_1 hI hm
    have hm : 6 - x_36_0.toInt < (n : Int) + 1 := by simpa using hm
    have h_x_36_0 := hI
    unfold wl_X11_compare_N_36
    by_cases c6 : h0_site_world_folk_listeners ≤ x_36_0
    · refine br1 c6 ?_
      have d7 := le_z (x := (Int32.toInt h0_site_world_folk_listeners)) (y := (Int32.toInt x_36_0)) rfl rfl c6
      exact KX _ _ ⟨by omega, by omega⟩
    · refine br0 c6 ?_
      have d8 := nle_z (x := (Int32.toInt h0_site_world_folk_listeners)) (y := (Int32.toInt x_36_0)) rfl rfl c6
      refine s_X3_cellsHeardBy x_36_0 h0_site_world_folk_noises h0_site_world_folk_hushed (f_h0_site_world_folk_column) (f_h0_site_world_folk_noiseColumn) (f_h0_site_world_folk_noiseLoud) (f_h0_site_world_rock_kind) (u_28_3) (u_28_4) (f_h0_site_world_folk_ear) ⟨by omega, by omega⟩ ⟨by omega, by omega⟩ h_f_h0_site_world_folk_column h_f_h0_site_world_folk_noiseColumn h_f_h0_site_world_folk_noiseLoud h_f_h0_site_world_rock_kind h_u_28_3 h_u_28_4 h_f_h0_site_world_folk_ear (fun r9 H10 => ?_)
      refine s_J13_bitCount_95d88 r9  (fun r11 H12 => ?_)
      have t13 : (Int32.toInt (x_36_0 + 1)) = (Int32.toInt x_36_0) + 1 := add_z rfl rfl (by omega) (by omega)
      exact ih _ _ ⟨by omega, by omega⟩ (by omega)
set_option maxRecDepth 100000 in
theorem s_X11_compare_N (a : Int32) (h0_site_world : Nat) (h0_site_world_lawCount : Int32) (f_h0_site_world_laws : Nat → Option Nat) (h0_asker_world : Value) (h0_asker_law : Value) (h0_asker_cell : Int32) (h0_asker_shaft : Int32) (h0_asker_kind : Int32) (f_h0_site_world_rock_kind : Nat → Int32) (f_h0_ears_said : Nat → Int32) (f_h0_ears_lost : Nat → Int32) (h0_site_world_folk_listeners : Int32) (h0_site_world_folk_noises : Int32) (h0_site_world_folk_hushed : Int32) (f_h0_site_world_folk_column : Nat → Int32) (f_h0_site_world_folk_noiseColumn : Nat → Int32) (f_h0_site_world_folk_noiseLoud : Nat → Int32) (f_h0_site_world_folk_ear : Nat → Int32) (h_a : (-1) ≤ a.toInt ∧ a.toInt ≤ (-1)) (h_h0_site_world_lawCount : 0 ≤ h0_site_world_lawCount.toInt ∧ h0_site_world_lawCount.toInt ≤ 6) (h_h0_asker_cell : 0 ≤ h0_asker_cell.toInt ∧ h0_asker_cell.toInt ≤ 39) (h_f_h0_site_world_rock_kind : KI f_h0_site_world_rock_kind) (h_f_h0_ears_said : SA f_h0_ears_said) (h_f_h0_ears_lost : LO f_h0_ears_lost) (h_h0_site_world_folk_listeners : 0 ≤ h0_site_world_folk_listeners.toInt ∧ h0_site_world_folk_listeners.toInt ≤ 5) (h_h0_site_world_folk_noises : 0 ≤ h0_site_world_folk_noises.toInt ∧ h0_site_world_folk_noises.toInt ≤ 6) (h_f_h0_site_world_folk_column : CO f_h0_site_world_folk_column) (h_f_h0_site_world_folk_noiseColumn : NC f_h0_site_world_folk_noiseColumn) (h_f_h0_site_world_folk_noiseLoud : NL f_h0_site_world_folk_noiseLoud) (h_f_h0_site_world_folk_ear : EA f_h0_site_world_folk_ear) {Q : Int32 → (Value × Value × Int32 × Int32 × Int32 × (Nat → Int32) × (Nat → Int32)) → Prop} (hq : ∀ (r : Int32) (u_0 : Value) (u_1 : Value) (u_2 : Int32) (u_3 : Int32) (u_4 : Int32) (u_5 : Nat → Int32) (u_6 : Nat → Int32), (0 ≤ u_2.toInt ∧ u_2.toInt ≤ 39) ∧ (SA u_5) ∧ (LO u_6) → Q r (u_0, u_1, u_2, u_3, u_4, u_5, u_6)) : wp_X11_compare_N a h0_site_world h0_site_world_lawCount f_h0_site_world_laws h0_asker_world h0_asker_law h0_asker_cell h0_asker_shaft h0_asker_kind f_h0_site_world_rock_kind f_h0_ears_said f_h0_ears_lost h0_site_world_folk_listeners h0_site_world_folk_noises h0_site_world_folk_hushed f_h0_site_world_folk_column f_h0_site_world_folk_noiseColumn f_h0_site_world_folk_noiseLoud f_h0_site_world_folk_ear Q := by
  unfold wp_X11_compare_N
  refine o_X10_hasLaw _ _ _ ?_
  refine br0 (z_nlt (x := (Int32.toInt a)) (y := (-1)) rfl (by decide) (by omega)) ?_
  refine br0 (z_nle (x := (Int32.toInt h0_site_world_lawCount)) (y := (Int32.toInt a)) rfl rfl (by omega)) ?_
  refine br0 (by decide) ?_
  refine o_X10_lawOf_N _ _ _ _ ?_
  refine br1 (z_lt (x := (Int32.toInt a)) (y := 0) rfl rfl (by omega)) ?_
  refine s_X3_measure_N h0_asker_cell h0_asker_shaft h0_asker_kind (f_h0_site_world_rock_kind) (f_h0_ears_said) (f_h0_ears_lost) ⟨by omega, by omega⟩ h_f_h0_site_world_rock_kind h_f_h0_ears_said h_f_h0_ears_lost (fun u1_0 u1_1 u1_2 u1_3 u1_4 H2 => ?_)
  have j3 := H2.1
  have j4 := H2.2.1
  have j5 := H2.2.2
  refine un5_i ?_
  have k8 : Int32.toInt 0 = 0 := rfl
  refine sl_X11_compare_N_36 (f_h0_site_world_rock_kind) h0_site_world_folk_listeners h0_site_world_folk_noises h0_site_world_folk_hushed (f_h0_site_world_folk_column) (f_h0_site_world_folk_noiseColumn) (f_h0_site_world_folk_noiseLoud) (f_h0_site_world_folk_ear) (u1_3) (u1_4) h_f_h0_site_world_rock_kind ⟨by omega, by omega⟩ ⟨by omega, by omega⟩ h_f_h0_site_world_folk_column h_f_h0_site_world_folk_noiseColumn h_f_h0_site_world_folk_noiseLoud h_f_h0_site_world_folk_ear j4 j5 _ (fun x6_0 x6_1 X7 => ?_) 1000000000000 0 0 (by decide) (by omega)
  have j9 := X7
  exact hq _ _ _ _ _ _ _ _ ⟨⟨by omega, by omega⟩, j4, j5⟩


set_option maxRecDepth 100000 in
theorem sl_X3_allHear_9 (b : Int32) (d : Int32) (g : Int32) (p0_folk_listeners : Int32) (p0_folk_noises : Int32) (p0_folk_hushed : Int32) (f_p0_folk_column : Nat → Int32) (f_h0_said : Nat → Int32) (f_h0_lost : Nat → Int32) (f_p0_folk_ear : Nat → Int32) (f_p0_folk_noiseColumn : Nat → Int32) (f_p0_folk_noiseLoud : Nat → Int32) (h_d : 0 ≤ d.toInt ∧ d.toInt ≤ 39) (h_p0_folk_listeners : 0 ≤ p0_folk_listeners.toInt ∧ p0_folk_listeners.toInt ≤ 5) (h_p0_folk_noises : 0 ≤ p0_folk_noises.toInt ∧ p0_folk_noises.toInt ≤ 6) (h_f_p0_folk_column : CO f_p0_folk_column) (h_f_h0_said : SA f_h0_said) (h_f_h0_lost : LO f_h0_lost) (h_f_p0_folk_ear : EA f_p0_folk_ear) (h_f_p0_folk_noiseColumn : NC f_p0_folk_noiseColumn) (h_f_p0_folk_noiseLoud : NL f_p0_folk_noiseLoud) {Q : Int32 → Prop} (hq : ∀ (r : Int32), (0 ≤ r.toInt ∧ r.toInt ≤ 1) → Q r) (Qb : Int32 → Prop) (KX : ∀ (x_9 : Int32), (0 ≤ x_9.toInt ∧ x_9.toInt ≤ 5) → Qb x_9) : ∀ (n : Nat) (x_9 : Int32), (0 ≤ x_9.toInt ∧ x_9.toInt ≤ 5) → 6 - x_9.toInt < (n : Int) → wl_X3_allHear_9 b d g p0_folk_listeners p0_folk_noises p0_folk_hushed f_p0_folk_column f_h0_said f_h0_lost f_p0_folk_ear f_p0_folk_noiseColumn f_p0_folk_noiseLoud Q Qb n x_9 := by
  intro n
  induction n with
  | zero =>
    intro x_9 hI hm
    exfalso; have hm : 6 - x_9.toInt < 0 := hm; omega
  | succ n ih =>
    intro x_9 hI hm
    have hm : 6 - x_9.toInt < (n : Int) + 1 := by simpa using hm
    have h_x_9 := hI
    unfold wl_X3_allHear_9
    by_cases c1 : p0_folk_listeners ≤ x_9
    · refine br1 c1 ?_
      have d2 := le_z (x := (Int32.toInt p0_folk_listeners)) (y := (Int32.toInt x_9)) rfl rfl c1
      exact KX _ ⟨by omega, by omega⟩
    · refine br0 c1 ?_
      have d3 := nle_z (x := (Int32.toInt p0_folk_listeners)) (y := (Int32.toInt x_9)) rfl rfl c1
      refine ⟨vpi (x := (Int32.toInt x_9)) rfl (by omega) (by omega), ?_⟩
      refine jn_s ?_
      by_cases c4 : ((b >>> (x_9 &&& 31)) &&& 1) = 0
      · refine br1 c4 ?_
        have t5 : 0 ≤ (Int32.toInt ((b >>> (x_9 &&& 31)) &&& 1)) ∧ (Int32.toInt ((b >>> (x_9 &&& 31)) &&& 1)) ≤ 1 := and_z (by decide)
        have d6 := eq_z (x := (Int32.toInt ((b >>> (x_9 &&& 31)) &&& 1))) (y := 0) rfl rfl c4
        refine br1 (by decide) ?_
        have t7 : (Int32.toInt (x_9 + 1)) = (Int32.toInt x_9) + 1 := add_z rfl rfl (by omega) (by omega)
        exact ih _ ⟨by omega, by omega⟩ (by omega)
      · refine br0 c4 ?_
        have t8 : 0 ≤ (Int32.toInt ((b >>> (x_9 &&& 31)) &&& 1)) ∧ (Int32.toInt ((b >>> (x_9 &&& 31)) &&& 1)) ≤ 1 := and_z (by decide)
        have d9 := ne_z (x := (Int32.toInt ((b >>> (x_9 &&& 31)) &&& 1))) (y := 0) rfl rfl c4
        refine br0 (by decide) ?_
        have g10 : 0 ≤ (Int32.toInt (f_p0_folk_column x_9.toNatClampNeg)) ∧ (Int32.toInt (f_p0_folk_column x_9.toNatClampNeg)) ≤ 7 := CO.at_0 h_f_p0_folk_column (tnz (x := (Int32.toInt x_9)) rfl (by omega)) (by omega) (by omega)
        refine s_X3_loudness d (f_p0_folk_column x_9.toNatClampNeg) (f_h0_said) (f_h0_lost) ⟨by omega, by omega⟩ ⟨by omega, by omega⟩ h_f_h0_said h_f_h0_lost (fun r11 H12 => ?_)
        have j13 := H12
        refine ⟨vpi (x := (Int32.toInt x_9)) rfl (by omega) (by omega), ?_⟩
        refine s_X4_noiseIn (f_p0_folk_column x_9.toNatClampNeg) g p0_folk_noises p0_folk_hushed (f_p0_folk_noiseColumn) (f_p0_folk_noiseLoud) ⟨by omega, by omega⟩ ⟨by omega, by omega⟩ h_f_p0_folk_noiseColumn h_f_p0_folk_noiseLoud (fun r14 H15 => ?_)
        by_cases c16 : r14 < (r11 + (f_p0_folk_ear x_9.toNatClampNeg))
        · refine br1 c16 ?_
          have g17 : 0 ≤ (Int32.toInt (f_p0_folk_ear x_9.toNatClampNeg)) ∧ (Int32.toInt (f_p0_folk_ear x_9.toNatClampNeg)) ≤ 20 := EA.at_0 h_f_p0_folk_ear (tnz (x := (Int32.toInt x_9)) rfl (by omega)) (by omega) (by omega)
          have t18 : (Int32.toInt (r11 + (f_p0_folk_ear x_9.toNatClampNeg))) = (Int32.toInt r11) + (Int32.toInt (f_p0_folk_ear x_9.toNatClampNeg)) := add_z rfl rfl (by omega) (by omega)
          have d19 := lt_z (x := (Int32.toInt r14)) (y := (Int32.toInt (r11 + (f_p0_folk_ear x_9.toNatClampNeg)))) rfl rfl c16
          have t20 : (Int32.toInt (x_9 + 1)) = (Int32.toInt x_9) + 1 := add_z rfl rfl (by omega) (by omega)
          exact ih _ ⟨by omega, by omega⟩ (by omega)
        · refine br0 c16 ?_
          have g21 : 0 ≤ (Int32.toInt (f_p0_folk_ear x_9.toNatClampNeg)) ∧ (Int32.toInt (f_p0_folk_ear x_9.toNatClampNeg)) ≤ 20 := EA.at_0 h_f_p0_folk_ear (tnz (x := (Int32.toInt x_9)) rfl (by omega)) (by omega) (by omega)
          have t22 : (Int32.toInt (r11 + (f_p0_folk_ear x_9.toNatClampNeg))) = (Int32.toInt r11) + (Int32.toInt (f_p0_folk_ear x_9.toNatClampNeg)) := add_z rfl rfl (by omega) (by omega)
          have d23 := nlt_z (x := (Int32.toInt r14)) (y := (Int32.toInt (r11 + (f_p0_folk_ear x_9.toNatClampNeg)))) rfl rfl c16
          exact hq _ (by decide)
set_option maxRecDepth 100000 in
theorem s_X3_allHear (b : Int32) (d : Int32) (g : Int32) (p0_folk_listeners : Int32) (p0_folk_noises : Int32) (p0_folk_hushed : Int32) (f_p0_folk_column : Nat → Int32) (f_h0_said : Nat → Int32) (f_h0_lost : Nat → Int32) (f_p0_folk_ear : Nat → Int32) (f_p0_folk_noiseColumn : Nat → Int32) (f_p0_folk_noiseLoud : Nat → Int32) (h_d : 0 ≤ d.toInt ∧ d.toInt ≤ 39) (h_p0_folk_listeners : 0 ≤ p0_folk_listeners.toInt ∧ p0_folk_listeners.toInt ≤ 5) (h_p0_folk_noises : 0 ≤ p0_folk_noises.toInt ∧ p0_folk_noises.toInt ≤ 6) (h_f_p0_folk_column : CO f_p0_folk_column) (h_f_h0_said : SA f_h0_said) (h_f_h0_lost : LO f_h0_lost) (h_f_p0_folk_ear : EA f_p0_folk_ear) (h_f_p0_folk_noiseColumn : NC f_p0_folk_noiseColumn) (h_f_p0_folk_noiseLoud : NL f_p0_folk_noiseLoud) {Q : Int32 → Prop} (hq : ∀ (r : Int32), (0 ≤ r.toInt ∧ r.toInt ≤ 1) → Q r) : wp_X3_allHear b d g p0_folk_listeners p0_folk_noises p0_folk_hushed f_p0_folk_column f_h0_said f_h0_lost f_p0_folk_ear f_p0_folk_noiseColumn f_p0_folk_noiseLoud Q := by
  unfold wp_X3_allHear
  have k3 : Int32.toInt 0 = 0 := rfl
  refine sl_X3_allHear_9 b d g p0_folk_listeners p0_folk_noises p0_folk_hushed (f_p0_folk_column) (f_h0_said) (f_h0_lost) (f_p0_folk_ear) (f_p0_folk_noiseColumn) (f_p0_folk_noiseLoud) ⟨by omega, by omega⟩ ⟨by omega, by omega⟩ ⟨by omega, by omega⟩ h_f_p0_folk_column h_f_h0_said h_f_h0_lost h_f_p0_folk_ear h_f_p0_folk_noiseColumn h_f_p0_folk_noiseLoud hq _ (fun x1 X2 => ?_) 1000000000000 0 (by decide) (by omega)
  have j4 := X2
  exact hq _ (by decide)


set_option maxRecDepth 100000 in
theorem sl_X3_fewestToHush_N_11 (b : Int32) (d : Int32) (p0_folk_listeners : Int32) (p0_folk_noises : Int32) (p0_folk_hushed : Int32) (f_p0_folk_column : Nat → Int32) (f_p0_folk_ear : Nat → Int32) (f_p0_folk_noiseColumn : Nat → Int32) (f_p0_folk_noiseLoud : Nat → Int32) (u_2_3 : Nat → Int32) (u_2_4 : Nat → Int32) (h_d : 0 ≤ d.toInt ∧ d.toInt ≤ 39) (h_p0_folk_listeners : 0 ≤ p0_folk_listeners.toInt ∧ p0_folk_listeners.toInt ≤ 5) (h_p0_folk_noises : 0 ≤ p0_folk_noises.toInt ∧ p0_folk_noises.toInt ≤ 6) (h_f_p0_folk_column : CO f_p0_folk_column) (h_f_p0_folk_ear : EA f_p0_folk_ear) (h_f_p0_folk_noiseColumn : NC f_p0_folk_noiseColumn) (h_f_p0_folk_noiseLoud : NL f_p0_folk_noiseLoud) (h_u_2_3 : SA u_2_3) (h_u_2_4 : LO u_2_4) (Qb : Int32 → Int32 → Prop) (KX : ∀ (x_11_0 : Int32) (x_11_1 : Int32), (1 ≤ x_11_0.toInt ∧ x_11_0.toInt ≤ 64) ∧ ((-1) ≤ x_11_1.toInt ∧ x_11_1.toInt ≤ 2147483647) → Qb x_11_0 x_11_1) : ∀ (n : Nat) (x_11_0 : Int32) (x_11_1 : Int32), (0 ≤ x_11_0.toInt ∧ x_11_0.toInt ≤ 64) ∧ ((-1) ≤ x_11_1.toInt ∧ x_11_1.toInt ≤ 2147483647) → 65 - x_11_0.toInt < (n : Int) → wl_X3_fewestToHush_N_11 b d p0_folk_listeners p0_folk_noises p0_folk_hushed f_p0_folk_column f_p0_folk_ear f_p0_folk_noiseColumn f_p0_folk_noiseLoud u_2_3 u_2_4 Qb n x_11_0 x_11_1 := by
  intro n
  induction n with
  | zero =>
    intro x_11_0 x_11_1 hI hm
    exfalso; have hm : 65 - x_11_0.toInt < 0 := hm; omega
  | succ n ih =>
    intro x_11_0 x_11_1 hI hm
    have hm : 65 - x_11_0.toInt < (n : Int) + 1 := by simpa using hm
    have h_x_11_0 := hI.1
    have h_x_11_1 := hI.2
    unfold wl_X3_fewestToHush_N_11
    by_cases c6 : ((1 : Int32) <<< (p0_folk_noises &&& 31)) ≤ x_11_0
    · refine br1 c6 ?_
      have t7 : 1 ≤ (Int32.toInt ((1 : Int32) <<< (p0_folk_noises &&& 31))) ∧ (Int32.toInt ((1 : Int32) <<< (p0_folk_noises &&& 31))) ≤ 64 := shl1_b (by omega) (by omega)
      have d8 := le_z (x := (Int32.toInt ((1 : Int32) <<< (p0_folk_noises &&& 31)))) (y := (Int32.toInt x_11_0)) rfl rfl c6
      have t9 := i32_hi x_11_1
      exact KX _ _ ⟨⟨by omega, by omega⟩, ⟨by omega, by omega⟩⟩
    · refine br0 c6 ?_
      have t10 : 1 ≤ (Int32.toInt ((1 : Int32) <<< (p0_folk_noises &&& 31))) ∧ (Int32.toInt ((1 : Int32) <<< (p0_folk_noises &&& 31))) ≤ 64 := shl1_b (by omega) (by omega)
      have d11 := nle_z (x := (Int32.toInt ((1 : Int32) <<< (p0_folk_noises &&& 31)))) (y := (Int32.toInt x_11_0)) rfl rfl c6
      refine jn_s ?_
      by_cases c12 : x_11_1 = (-1)
      · refine br1 c12 ?_
        have d13 := eq_z (x := (Int32.toInt x_11_1)) (y := (-1)) rfl (by decide) c12
        refine jn_s ?_
        by_cases c14 : (x_11_0 &&& p0_folk_hushed) = 0
        · refine br1 c14 ?_
          have d15 := eq_z (x := (Int32.toInt (x_11_0 &&& p0_folk_hushed))) (y := 0) rfl rfl c14
          refine br0 (by decide) ?_
          refine br0 (by decide) ?_
          refine s_X3_allHear b d x_11_0 p0_folk_listeners p0_folk_noises p0_folk_hushed (f_p0_folk_column) (u_2_3) (u_2_4) (f_p0_folk_ear) (f_p0_folk_noiseColumn) (f_p0_folk_noiseLoud) ⟨by omega, by omega⟩ ⟨by omega, by omega⟩ ⟨by omega, by omega⟩ h_f_p0_folk_column h_u_2_3 h_u_2_4 h_f_p0_folk_ear h_f_p0_folk_noiseColumn h_f_p0_folk_noiseLoud (fun r16 H17 => ?_)
          have j18 := H17
          by_cases c19 : r16 = 0
          · refine br1 c19 ?_
            have d20 := eq_z (x := (Int32.toInt r16)) (y := 0) rfl rfl c19
            have t21 : (Int32.toInt (x_11_0 + 1)) = (Int32.toInt x_11_0) + 1 := add_z rfl rfl (by omega) (by omega)
            have t22 := i32_hi x_11_1
            exact ih _ _ ⟨⟨by omega, by omega⟩, ⟨by omega, by omega⟩⟩ (by omega)
          · refine br0 c19 ?_
            have d23 := ne_z (x := (Int32.toInt r16)) (y := 0) rfl rfl c19
            have t24 : (Int32.toInt (x_11_0 + 1)) = (Int32.toInt x_11_0) + 1 := add_z rfl rfl (by omega) (by omega)
            have t25 := i32_hi x_11_0
            exact ih _ _ ⟨⟨by omega, by omega⟩, ⟨by omega, by omega⟩⟩ (by omega)
        · refine br0 c14 ?_
          have d26 := ne_z (x := (Int32.toInt (x_11_0 &&& p0_folk_hushed))) (y := 0) rfl rfl c14
          refine br0 (by decide) ?_
          refine br1 (by decide) ?_
          have t27 : (Int32.toInt (x_11_0 + 1)) = (Int32.toInt x_11_0) + 1 := add_z rfl rfl (by omega) (by omega)
          have t28 := i32_hi x_11_1
          exact ih _ _ ⟨⟨by omega, by omega⟩, ⟨by omega, by omega⟩⟩ (by omega)
      · refine br0 c12 ?_
        have d29 := ne_z (x := (Int32.toInt x_11_1)) (y := (-1)) rfl (by decide) c12
        refine s_J6_bitCount_0f7a4 x_11_0  (fun r30 H31 => ?_)
        refine s_J6_bitCount_0f7a4 x_11_1  (fun r32 H33 => ?_)
        by_cases c34 : r32 ≤ r30
        · refine br1 c34 ?_
          have d35 := le_z (x := (Int32.toInt r32)) (y := (Int32.toInt r30)) rfl rfl c34
          refine jn_s ?_
          by_cases c36 : (x_11_0 &&& p0_folk_hushed) = 0
          · refine br1 c36 ?_
            have d37 := eq_z (x := (Int32.toInt (x_11_0 &&& p0_folk_hushed))) (y := 0) rfl rfl c36
            refine br1 (by decide) ?_
            have t38 : (Int32.toInt (x_11_0 + 1)) = (Int32.toInt x_11_0) + 1 := add_z rfl rfl (by omega) (by omega)
            have t39 := i32_hi x_11_1
            exact ih _ _ ⟨⟨by omega, by omega⟩, ⟨by omega, by omega⟩⟩ (by omega)
          · refine br0 c36 ?_
            have d40 := ne_z (x := (Int32.toInt (x_11_0 &&& p0_folk_hushed))) (y := 0) rfl rfl c36
            refine br1 (by decide) ?_
            have t41 : (Int32.toInt (x_11_0 + 1)) = (Int32.toInt x_11_0) + 1 := add_z rfl rfl (by omega) (by omega)
            have t42 := i32_hi x_11_1
            exact ih _ _ ⟨⟨by omega, by omega⟩, ⟨by omega, by omega⟩⟩ (by omega)
        · refine br0 c34 ?_
          have d43 := nle_z (x := (Int32.toInt r32)) (y := (Int32.toInt r30)) rfl rfl c34
          refine jn_s ?_
          by_cases c44 : (x_11_0 &&& p0_folk_hushed) = 0
          · refine br1 c44 ?_
            have d45 := eq_z (x := (Int32.toInt (x_11_0 &&& p0_folk_hushed))) (y := 0) rfl rfl c44
            refine br0 (by decide) ?_
            refine br0 (by decide) ?_
            refine s_X3_allHear b d x_11_0 p0_folk_listeners p0_folk_noises p0_folk_hushed (f_p0_folk_column) (u_2_3) (u_2_4) (f_p0_folk_ear) (f_p0_folk_noiseColumn) (f_p0_folk_noiseLoud) ⟨by omega, by omega⟩ ⟨by omega, by omega⟩ ⟨by omega, by omega⟩ h_f_p0_folk_column h_u_2_3 h_u_2_4 h_f_p0_folk_ear h_f_p0_folk_noiseColumn h_f_p0_folk_noiseLoud (fun r46 H47 => ?_)
            have j48 := H47
            by_cases c49 : r46 = 0
            · refine br1 c49 ?_
              have d50 := eq_z (x := (Int32.toInt r46)) (y := 0) rfl rfl c49
              have t51 : (Int32.toInt (x_11_0 + 1)) = (Int32.toInt x_11_0) + 1 := add_z rfl rfl (by omega) (by omega)
              have t52 := i32_hi x_11_1
              exact ih _ _ ⟨⟨by omega, by omega⟩, ⟨by omega, by omega⟩⟩ (by omega)
            · refine br0 c49 ?_
              have d53 := ne_z (x := (Int32.toInt r46)) (y := 0) rfl rfl c49
              have t54 : (Int32.toInt (x_11_0 + 1)) = (Int32.toInt x_11_0) + 1 := add_z rfl rfl (by omega) (by omega)
              have t55 := i32_hi x_11_0
              exact ih _ _ ⟨⟨by omega, by omega⟩, ⟨by omega, by omega⟩⟩ (by omega)
          · refine br0 c44 ?_
            have d56 := ne_z (x := (Int32.toInt (x_11_0 &&& p0_folk_hushed))) (y := 0) rfl rfl c44
            refine br0 (by decide) ?_
            refine br1 (by decide) ?_
            have t57 : (Int32.toInt (x_11_0 + 1)) = (Int32.toInt x_11_0) + 1 := add_z rfl rfl (by omega) (by omega)
            have t58 := i32_hi x_11_1
            exact ih _ _ ⟨⟨by omega, by omega⟩, ⟨by omega, by omega⟩⟩ (by omega)
set_option maxRecDepth 100000 in
theorem s_X3_fewestToHush_N (b : Int32) (d : Int32) (f_h0_said : Nat → Int32) (f_h0_lost : Nat → Int32) (p0_folk_listeners : Int32) (p0_folk_noises : Int32) (p0_folk_hushed : Int32) (f_p0_folk_column : Nat → Int32) (f_p0_folk_ear : Nat → Int32) (f_p0_folk_noiseColumn : Nat → Int32) (f_p0_folk_noiseLoud : Nat → Int32) (h_d : 0 ≤ d.toInt ∧ d.toInt ≤ 39) (h_f_h0_said : SA f_h0_said) (h_f_h0_lost : LO f_h0_lost) (h_p0_folk_listeners : 0 ≤ p0_folk_listeners.toInt ∧ p0_folk_listeners.toInt ≤ 5) (h_p0_folk_noises : 0 ≤ p0_folk_noises.toInt ∧ p0_folk_noises.toInt ≤ 6) (h_f_p0_folk_column : CO f_p0_folk_column) (h_f_p0_folk_ear : EA f_p0_folk_ear) (h_f_p0_folk_noiseColumn : NC f_p0_folk_noiseColumn) (h_f_p0_folk_noiseLoud : NL f_p0_folk_noiseLoud) {Q : Int32 → (Int32 × Int32 × Int32 × (Nat → Int32) × (Nat → Int32)) → Prop} (hq : ∀ (r : Int32) (u_0 : Int32) (u_1 : Int32) (u_2 : Int32) (u_3 : Nat → Int32) (u_4 : Nat → Int32), (0 ≤ u_0.toInt ∧ u_0.toInt ≤ 39) ∧ (SA u_3) ∧ (LO u_4) → Q r (u_0, u_1, u_2, u_3, u_4)) : wp_X3_fewestToHush_N b d f_h0_said f_h0_lost p0_folk_listeners p0_folk_noises p0_folk_hushed f_p0_folk_column f_p0_folk_ear f_p0_folk_noiseColumn f_p0_folk_noiseLoud Q := by
  unfold wp_X3_fewestToHush_N
  refine s_X3_measureCell_N d (f_h0_said) (f_h0_lost) ⟨by omega, by omega⟩ h_f_h0_said h_f_h0_lost (fun u1_0 u1_1 u1_2 u1_3 u1_4 H2 => ?_)
  have j3 := H2.1
  have j4 := H2.2.1
  have j5 := H2.2.2
  refine un5_i ?_
  have k8 : Int32.toInt 0 = 0 := rfl
  have k9 : Int32.toInt (-1) = (-1) := (by decide)
  refine sl_X3_fewestToHush_N_11 b d p0_folk_listeners p0_folk_noises p0_folk_hushed (f_p0_folk_column) (f_p0_folk_ear) (f_p0_folk_noiseColumn) (f_p0_folk_noiseLoud) (u1_3) (u1_4) ⟨by omega, by omega⟩ ⟨by omega, by omega⟩ ⟨by omega, by omega⟩ h_f_p0_folk_column h_f_p0_folk_ear h_f_p0_folk_noiseColumn h_f_p0_folk_noiseLoud j4 j5 _ (fun x6_0 x6_1 X7 => ?_) 1000000000000 0 (-1) ⟨(by decide), (by decide)⟩ (by omega)
  have j10 := X7.1
  have j11 := X7.2
  exact hq _ _ _ _ _ _ ⟨⟨by omega, by omega⟩, j4, j5⟩


set_option maxRecDepth 100000 in
theorem s_X11_quiet_N (a : Int32) (b : Int32) (d : Int32) (h0_site_world : Nat) (h0_site_world_lawCount : Int32) (h0_site_world_force : Int32) (h0_site_world_folk_listeners : Int32) (h0_site_world_folk_noises : Int32) (h0_site_world_folk_hushed : Int32) (f_h0_site_world_rock_kind : Nat → Int32) (f_h0_site_world_laws : Nat → Option Nat) (h0_asker_world : Value) (h0_asker_law : Value) (h0_asker_cell : Int32) (h0_asker_shaft : Int32) (h0_asker_kind : Int32) (f_h0_ears_said : Nat → Int32) (f_h0_ears_lost : Nat → Int32) (f_h0_site_world_folk_column : Nat → Int32) (f_h0_site_world_folk_ear : Nat → Int32) (f_h0_site_world_folk_noiseColumn : Nat → Int32) (f_h0_site_world_folk_noiseLoud : Nat → Int32) (h_h0_site_world_lawCount : 0 ≤ h0_site_world_lawCount.toInt ∧ h0_site_world_lawCount.toInt ≤ 6) (h_h0_site_world_force : (-1) ≤ h0_site_world_force.toInt ∧ h0_site_world_force.toInt ≤ (-1)) (h_h0_site_world_folk_listeners : 0 ≤ h0_site_world_folk_listeners.toInt ∧ h0_site_world_folk_listeners.toInt ≤ 5) (h_h0_site_world_folk_noises : 0 ≤ h0_site_world_folk_noises.toInt ∧ h0_site_world_folk_noises.toInt ≤ 6) (h_f_h0_site_world_rock_kind : KI f_h0_site_world_rock_kind) (h_h0_asker_cell : 0 ≤ h0_asker_cell.toInt ∧ h0_asker_cell.toInt ≤ 39) (h_f_h0_ears_said : SA f_h0_ears_said) (h_f_h0_ears_lost : LO f_h0_ears_lost) (h_f_h0_site_world_folk_column : CO f_h0_site_world_folk_column) (h_f_h0_site_world_folk_ear : EA f_h0_site_world_folk_ear) (h_f_h0_site_world_folk_noiseColumn : NC f_h0_site_world_folk_noiseColumn) (h_f_h0_site_world_folk_noiseLoud : NL f_h0_site_world_folk_noiseLoud) {Q : Int32 → (Value × Value × Int32 × Int32 × Int32 × (Nat → Int32) × (Nat → Int32)) → Prop} (hq : ∀ (r : Int32) (u_0 : Value) (u_1 : Value) (u_2 : Int32) (u_3 : Int32) (u_4 : Int32) (u_5 : Nat → Int32) (u_6 : Nat → Int32), (0 ≤ u_2.toInt ∧ u_2.toInt ≤ 39) ∧ (SA u_5) ∧ (LO u_6) → Q r (u_0, u_1, u_2, u_3, u_4, u_5, u_6)) : wp_X11_quiet_N a b d h0_site_world h0_site_world_lawCount h0_site_world_force h0_site_world_folk_listeners h0_site_world_folk_noises h0_site_world_folk_hushed f_h0_site_world_rock_kind f_h0_site_world_laws h0_asker_world h0_asker_law h0_asker_cell h0_asker_shaft h0_asker_kind f_h0_ears_said f_h0_ears_lost f_h0_site_world_folk_column f_h0_site_world_folk_ear f_h0_site_world_folk_noiseColumn f_h0_site_world_folk_noiseLoud Q := by
  unfold wp_X11_quiet_N
  refine jn1_i (fun (y1 : Int32) => (0 ≤ y1.toInt ∧ y1.toInt ≤ 1)) (fun y1 J2 => ?_) (fun _ HJ2 => ?_)
  · have j3 := J2
    by_cases c4 : y1 = 0
    · refine br1 c4 ?_
      have d5 := eq_z (x := (Int32.toInt y1)) (y := 0) rfl rfl c4
      exact hq _ _ _ _ _ _ _ _ ⟨⟨by omega, by omega⟩, h_f_h0_ears_said, h_f_h0_ears_lost⟩
    · refine br0 c4 ?_
      have d6 := ne_z (x := (Int32.toInt y1)) (y := 0) rfl rfl c4
      refine o_X11_isWithin _ _ _ ?_
      by_cases c7 : b < 0
      · refine br1 c7 ?_
        have d8 := lt_z (x := (Int32.toInt b)) (y := 0) rfl rfl c7
        refine br1 (by decide) ?_
        exact hq _ _ _ _ _ _ _ _ ⟨⟨by omega, by omega⟩, h_f_h0_ears_said, h_f_h0_ears_lost⟩
      · refine br0 c7 ?_
        have d9 := nlt_z (x := (Int32.toInt b)) (y := 0) rfl rfl c7
        by_cases c10 : 40 ≤ b
        · refine br1 c10 ?_
          have d11 := le_z (x := 40) (y := (Int32.toInt b)) rfl rfl c10
          refine br1 (by decide) ?_
          exact hq _ _ _ _ _ _ _ _ ⟨⟨by omega, by omega⟩, h_f_h0_ears_said, h_f_h0_ears_lost⟩
        · refine br0 c10 ?_
          have d12 := nle_z (x := 40) (y := (Int32.toInt b)) rfl rfl c10
          refine br0 (by decide) ?_
          refine o_X11_isWithin _ _ _ ?_
          by_cases c13 : d < 0
          · refine br1 c13 ?_
            have d14 := lt_z (x := (Int32.toInt d)) (y := 0) rfl rfl c13
            refine br1 (by decide) ?_
            exact hq _ _ _ _ _ _ _ _ ⟨⟨by omega, by omega⟩, h_f_h0_ears_said, h_f_h0_ears_lost⟩
          · refine br0 c13 ?_
            have d15 := nlt_z (x := (Int32.toInt d)) (y := 0) rfl rfl c13
            by_cases c16 : 2 ≤ d
            · refine br1 c16 ?_
              have d17 := le_z (x := 2) (y := (Int32.toInt d)) rfl rfl c16
              refine br1 (by decide) ?_
              exact hq _ _ _ _ _ _ _ _ ⟨⟨by omega, by omega⟩, h_f_h0_ears_said, h_f_h0_ears_lost⟩
            · refine br0 c16 ?_
              have d18 := nle_z (x := 2) (y := (Int32.toInt d)) rfl rfl c16
              refine br0 (by decide) ?_
              refine ⟨vpi (x := (Int32.toInt b)) rfl (by omega) (by omega), ?_⟩
              by_cases c19 : (f_h0_site_world_rock_kind b.toNatClampNeg) = 3
              · refine br1 c19 ?_
                have g20 : 0 ≤ (Int32.toInt (f_h0_site_world_rock_kind b.toNatClampNeg)) ∧ (Int32.toInt (f_h0_site_world_rock_kind b.toNatClampNeg)) ≤ 3 := KI.at_0 h_f_h0_site_world_rock_kind (tnz (x := (Int32.toInt b)) rfl (by omega)) (by omega) (by omega)
                have d21 := eq_z (x := (Int32.toInt (f_h0_site_world_rock_kind b.toNatClampNeg))) (y := 3) rfl rfl c19
                refine o_X10_lawInForce_N _ _ _ _ ?_
                refine o_X10_lawOf_N _ _ _ _ ?_
                refine br1 (z_lt (x := (Int32.toInt h0_site_world_force)) (y := 0) rfl rfl (by omega)) ?_
                refine o_X0_turnTo_N _ ?_
                refine s_X3_fewestToHush_N a b (f_h0_ears_said) (f_h0_ears_lost) h0_site_world_folk_listeners h0_site_world_folk_noises h0_site_world_folk_hushed (f_h0_site_world_folk_column) (f_h0_site_world_folk_ear) (f_h0_site_world_folk_noiseColumn) (f_h0_site_world_folk_noiseLoud) ⟨by omega, by omega⟩ h_f_h0_ears_said h_f_h0_ears_lost ⟨by omega, by omega⟩ ⟨by omega, by omega⟩ h_f_h0_site_world_folk_column h_f_h0_site_world_folk_ear h_f_h0_site_world_folk_noiseColumn h_f_h0_site_world_folk_noiseLoud (fun r22 u23_0 u23_1 u23_2 u23_3 u23_4 H24 => ?_)
                have j25 := H24.1
                have j26 := H24.2.1
                have j27 := H24.2.2
                refine un5_i ?_
                by_cases c28 : r22 = (-1)
                · refine br1 c28 ?_
                  have d29 := eq_z (x := (Int32.toInt r22)) (y := (-1)) rfl (by decide) c28
                  exact hq _ _ _ _ _ _ _ _ ⟨⟨by omega, by omega⟩, j26, j27⟩
                · refine br0 c28 ?_
                  have d30 := ne_z (x := (Int32.toInt r22)) (y := (-1)) rfl (by decide) c28
                  by_cases c31 : d = 0
                  · refine br1 c31 ?_
                    have d32 := eq_z (x := (Int32.toInt d)) (y := 0) rfl rfl c31
                    refine s_J6_bitCount_0f7a4 r22  (fun r33 H34 => ?_)
                    exact hq _ _ _ _ _ _ _ _ ⟨⟨by omega, by omega⟩, j26, j27⟩
                  · refine br0 c31 ?_
                    have d35 := ne_z (x := (Int32.toInt d)) (y := 0) rfl rfl c31
                    exact hq _ _ _ _ _ _ _ _ ⟨⟨by omega, by omega⟩, j26, j27⟩
              · refine br0 c19 ?_
                have g36 : 0 ≤ (Int32.toInt (f_h0_site_world_rock_kind b.toNatClampNeg)) ∧ (Int32.toInt (f_h0_site_world_rock_kind b.toNatClampNeg)) ≤ 3 := KI.at_0 h_f_h0_site_world_rock_kind (tnz (x := (Int32.toInt b)) rfl (by omega)) (by omega) (by omega)
                have d37 := ne_z (x := (Int32.toInt (f_h0_site_world_rock_kind b.toNatClampNeg))) (y := 3) rfl rfl c19
                exact hq _ _ _ _ _ _ _ _ ⟨⟨by omega, by omega⟩, h_f_h0_ears_said, h_f_h0_ears_lost⟩
  · skip
    by_cases c38 : a < 0
    · refine br1 c38 ?_
      have d39 := lt_z (x := (Int32.toInt a)) (y := 0) rfl rfl c38
      exact HJ2 _ (by decide)
    · refine br0 c38 ?_
      have d40 := nlt_z (x := (Int32.toInt a)) (y := 0) rfl rfl c38
      by_cases c41 : (a >>> (h0_site_world_folk_listeners &&& 31)) = 0
      · refine br1 c41 ?_
        have d42 := eq_z (x := (Int32.toInt (a >>> (h0_site_world_folk_listeners &&& 31)))) (y := 0) rfl rfl c41
        exact HJ2 _ (by decide)
      · refine br0 c41 ?_
        have d43 := ne_z (x := (Int32.toInt (a >>> (h0_site_world_folk_listeners &&& 31)))) (y := 0) rfl rfl c41
        exact HJ2 _ (by decide)


set_option maxRecDepth 100000 in
theorem sl_X3_isAsHeard_2 (b : Int32) (p0_hearsay : Int32) (f_p0_hearsayColumn : Nat → Int32) (f_h0_said : Nat → Int32) (f_h0_lost : Nat → Int32) (f_p0_hearsayLoud : Nat → Int32) (h_b : 0 ≤ b.toInt ∧ b.toInt ≤ 39) (h_p0_hearsay : 0 ≤ p0_hearsay.toInt ∧ p0_hearsay.toInt ≤ 8) (h_f_p0_hearsayColumn : HC f_p0_hearsayColumn) (h_f_h0_said : SA f_h0_said) (h_f_h0_lost : LO f_h0_lost) (h_f_p0_hearsayLoud : HL f_p0_hearsayLoud) {Q : Int32 → Prop} (hq : ∀ (r : Int32), (0 ≤ r.toInt ∧ r.toInt ≤ 1) → Q r) (Qb : Int32 → Prop) (KX : ∀ (x_2 : Int32), (0 ≤ x_2.toInt ∧ x_2.toInt ≤ 8) → Qb x_2) : ∀ (n : Nat) (x_2 : Int32), (0 ≤ x_2.toInt ∧ x_2.toInt ≤ 8) → 9 - x_2.toInt < (n : Int) → wl_X3_isAsHeard_2 b p0_hearsay f_p0_hearsayColumn f_h0_said f_h0_lost f_p0_hearsayLoud Q Qb n x_2 := by
  intro n
  induction n with
  | zero =>
    intro x_2 hI hm
    exfalso; have hm : 9 - x_2.toInt < 0 := hm; omega
  | succ n ih =>
    intro x_2 hI hm
    have hm : 9 - x_2.toInt < (n : Int) + 1 := by simpa using hm
    have h_x_2 := hI
    unfold wl_X3_isAsHeard_2
    by_cases c1 : p0_hearsay ≤ x_2
    · refine br1 c1 ?_
      have d2 := le_z (x := (Int32.toInt p0_hearsay)) (y := (Int32.toInt x_2)) rfl rfl c1
      exact KX _ ⟨by omega, by omega⟩
    · refine br0 c1 ?_
      have d3 := nle_z (x := (Int32.toInt p0_hearsay)) (y := (Int32.toInt x_2)) rfl rfl c1
      refine ⟨vpi (x := (Int32.toInt x_2)) rfl (by omega) (by omega), ?_⟩
      have g4 : 0 ≤ (Int32.toInt (f_p0_hearsayColumn x_2.toNatClampNeg)) ∧ (Int32.toInt (f_p0_hearsayColumn x_2.toNatClampNeg)) ≤ 7 := HC.at_0 h_f_p0_hearsayColumn (tnz (x := (Int32.toInt x_2)) rfl (by omega)) (by omega) (by omega)
      refine s_X3_loudness b (f_p0_hearsayColumn x_2.toNatClampNeg) (f_h0_said) (f_h0_lost) ⟨by omega, by omega⟩ ⟨by omega, by omega⟩ h_f_h0_said h_f_h0_lost (fun r5 H6 => ?_)
      have j7 := H6
      refine ⟨vpi (x := (Int32.toInt x_2)) rfl (by omega) (by omega), ?_⟩
      by_cases c8 : (if 0 < r5 then r5 else 0) = (f_p0_hearsayLoud x_2.toNatClampNeg)
      · refine br1 c8 ?_
        have t9 := mx_z (a := 0) (b := r5)
        have k10 : Int32.toInt 0 = 0 := rfl
        have g11 : 0 ≤ (Int32.toInt (f_p0_hearsayLoud x_2.toNatClampNeg)) ∧ (Int32.toInt (f_p0_hearsayLoud x_2.toNatClampNeg)) ≤ 99 := HL.at_0 h_f_p0_hearsayLoud (tnz (x := (Int32.toInt x_2)) rfl (by omega)) (by omega) (by omega)
        have d12 := eq_z (x := (Int32.toInt (if 0 < r5 then r5 else 0))) (y := (Int32.toInt (f_p0_hearsayLoud x_2.toNatClampNeg))) rfl rfl c8
        have t13 : (Int32.toInt (x_2 + 1)) = (Int32.toInt x_2) + 1 := add_z rfl rfl (by omega) (by omega)
        exact ih _ ⟨by omega, by omega⟩ (by omega)
      · refine br0 c8 ?_
        have t14 := mx_z (a := 0) (b := r5)
        have k15 : Int32.toInt 0 = 0 := rfl
        have g16 : 0 ≤ (Int32.toInt (f_p0_hearsayLoud x_2.toNatClampNeg)) ∧ (Int32.toInt (f_p0_hearsayLoud x_2.toNatClampNeg)) ≤ 99 := HL.at_0 h_f_p0_hearsayLoud (tnz (x := (Int32.toInt x_2)) rfl (by omega)) (by omega) (by omega)
        have d17 := ne_z (x := (Int32.toInt (if 0 < r5 then r5 else 0))) (y := (Int32.toInt (f_p0_hearsayLoud x_2.toNatClampNeg))) rfl rfl c8
        exact hq _ (by decide)
set_option maxRecDepth 100000 in
theorem s_X3_isAsHeard (b : Int32) (p0_hearsay : Int32) (f_p0_hearsayColumn : Nat → Int32) (f_h0_said : Nat → Int32) (f_h0_lost : Nat → Int32) (f_p0_hearsayLoud : Nat → Int32) (h_b : 0 ≤ b.toInt ∧ b.toInt ≤ 39) (h_p0_hearsay : 0 ≤ p0_hearsay.toInt ∧ p0_hearsay.toInt ≤ 8) (h_f_p0_hearsayColumn : HC f_p0_hearsayColumn) (h_f_h0_said : SA f_h0_said) (h_f_h0_lost : LO f_h0_lost) (h_f_p0_hearsayLoud : HL f_p0_hearsayLoud) {Q : Int32 → Prop} (hq : ∀ (r : Int32), (0 ≤ r.toInt ∧ r.toInt ≤ 1) → Q r) : wp_X3_isAsHeard b p0_hearsay f_p0_hearsayColumn f_h0_said f_h0_lost f_p0_hearsayLoud Q := by
  unfold wp_X3_isAsHeard
  have k3 : Int32.toInt 0 = 0 := rfl
  refine sl_X3_isAsHeard_2 b p0_hearsay (f_p0_hearsayColumn) (f_h0_said) (f_h0_lost) (f_p0_hearsayLoud) ⟨by omega, by omega⟩ ⟨by omega, by omega⟩ h_f_p0_hearsayColumn h_f_h0_said h_f_h0_lost h_f_p0_hearsayLoud hq _ (fun x1 X2 => ?_) 1000000000000 0 (by decide) (by omega)
  have j4 := X2
  exact hq _ (by decide)


set_option maxRecDepth 100000 in
theorem sl_X3_hiddenCells_N_17 (p0_rock_dug : Int64) (f_p0_rock_kind : Nat → Int32) (p0_folk_hearsay : Int32) (f_p0_folk_hearsayColumn : Nat → Int32) (f_p0_folk_hearsayLoud : Nat → Int32) (h_f_p0_rock_kind : KI f_p0_rock_kind) (h_p0_folk_hearsay : 0 ≤ p0_folk_hearsay.toInt ∧ p0_folk_hearsay.toInt ≤ 8) (h_f_p0_folk_hearsayColumn : HC f_p0_folk_hearsayColumn) (h_f_p0_folk_hearsayLoud : HL f_p0_folk_hearsayLoud) (Qb : Int32 → Int64 → (Nat → Int32) → (Nat → Int32) → Int32 → Int32 → Int32 → Prop) (KX : ∀ (x_17_0 : Int32) (x_17_1 : Int64) (x_17_2 : Nat → Int32) (x_17_3 : Nat → Int32) (x_17_4 : Int32) (x_17_5 : Int32) (x_17_6 : Int32), (40 ≤ x_17_0.toInt ∧ x_17_0.toInt ≤ 40) ∧ (SA x_17_2) ∧ (LO x_17_3) ∧ (0 ≤ x_17_4.toInt ∧ x_17_4.toInt ≤ 39) → Qb x_17_0 x_17_1 x_17_2 x_17_3 x_17_4 x_17_5 x_17_6) : ∀ (n : Nat) (x_17_0 : Int32) (x_17_1 : Int64) (x_17_2 : Nat → Int32) (x_17_3 : Nat → Int32) (x_17_4 : Int32) (x_17_5 : Int32) (x_17_6 : Int32), (0 ≤ x_17_0.toInt ∧ x_17_0.toInt ≤ 40) ∧ (SA x_17_2) ∧ (LO x_17_3) ∧ (0 ≤ x_17_4.toInt ∧ x_17_4.toInt ≤ 39) → 41 - x_17_0.toInt < (n : Int) → wl_X3_hiddenCells_N_17 p0_rock_dug f_p0_rock_kind p0_folk_hearsay f_p0_folk_hearsayColumn f_p0_folk_hearsayLoud Qb n x_17_0 x_17_1 x_17_2 x_17_3 x_17_4 x_17_5 x_17_6 := by
  intro n
  induction n with
  | zero =>
    intro x_17_0 x_17_1 x_17_2 x_17_3 x_17_4 x_17_5 x_17_6 hI hm
    exfalso; have hm : 41 - x_17_0.toInt < 0 := hm; omega
  | succ n ih =>
    intro x_17_0 x_17_1 x_17_2 x_17_3 x_17_4 x_17_5 x_17_6 hI hm
    have hm : 41 - x_17_0.toInt < (n : Int) + 1 := by simpa using hm
    have h_x_17_0 := hI.1
    have h_x_17_2 := hI.2.1
    have h_x_17_3 := hI.2.2.1
    have h_x_17_4 := hI.2.2.2
    unfold wl_X3_hiddenCells_N_17
    by_cases c1 : 40 ≤ x_17_0
    · refine br1 c1 ?_
      have d2 := le_z (x := 40) (y := (Int32.toInt x_17_0)) rfl rfl c1
      exact KX _ _ _ _ _ _ _ ⟨⟨by omega, by omega⟩, h_x_17_2, h_x_17_3, ⟨by omega, by omega⟩⟩
    · refine br0 c1 ?_
      have d3 := nle_z (x := 40) (y := (Int32.toInt x_17_0)) rfl rfl c1
      refine ⟨vpi (x := (Int32.toInt x_17_0)) rfl (by omega) (by omega), ?_⟩
      by_cases c4 : (f_p0_rock_kind x_17_0.toNatClampNeg) = 3
      · refine br1 c4 ?_
        have g5 : 0 ≤ (Int32.toInt (f_p0_rock_kind x_17_0.toNatClampNeg)) ∧ (Int32.toInt (f_p0_rock_kind x_17_0.toNatClampNeg)) ≤ 3 := KI.at_0 h_f_p0_rock_kind (tnz (x := (Int32.toInt x_17_0)) rfl (by omega)) (by omega) (by omega)
        have d6 := eq_z (x := (Int32.toInt (f_p0_rock_kind x_17_0.toNatClampNeg))) (y := 3) rfl rfl c4
        have t7 : (Int32.toInt (x_17_0 + 1)) = (Int32.toInt x_17_0) + 1 := add_z rfl rfl (by omega) (by omega)
        exact ih _ _ _ _ _ _ _ ⟨⟨by omega, by omega⟩, h_x_17_2, h_x_17_3, ⟨by omega, by omega⟩⟩ (by omega)
      · refine br0 c4 ?_
        have g8 : 0 ≤ (Int32.toInt (f_p0_rock_kind x_17_0.toNatClampNeg)) ∧ (Int32.toInt (f_p0_rock_kind x_17_0.toNatClampNeg)) ≤ 3 := KI.at_0 h_f_p0_rock_kind (tnz (x := (Int32.toInt x_17_0)) rfl (by omega)) (by omega) (by omega)
        have d9 := ne_z (x := (Int32.toInt (f_p0_rock_kind x_17_0.toNatClampNeg))) (y := 3) rfl rfl c4
        refine o_X6_isDug _ _ _ ?_
        by_cases c10 : (lg_cmp ((p0_rock_dug >>> (x_17_0.toInt64 &&& 63)) &&& 1) 0) = 0
        · refine br1 c10 ?_
          have d11 := c_eq (x := (Int64.toInt ((p0_rock_dug >>> (x_17_0.toInt64 &&& 63)) &&& 1))) (y := 0) rfl rfl c10
          refine br1 (by decide) ?_
          refine s_X3_measureCell_N x_17_0 (x_17_2) (x_17_3) ⟨by omega, by omega⟩ h_x_17_2 h_x_17_3 (fun u12_0 u12_1 u12_2 u12_3 u12_4 H13 => ?_)
          have j14 := H13.1
          have j15 := H13.2.1
          have j16 := H13.2.2
          refine un5_i ?_
          refine s_X3_isAsHeard x_17_0 p0_folk_hearsay (f_p0_folk_hearsayColumn) (u12_3) (u12_4) (f_p0_folk_hearsayLoud) ⟨by omega, by omega⟩ ⟨by omega, by omega⟩ h_f_p0_folk_hearsayColumn j15 j16 h_f_p0_folk_hearsayLoud (fun r17 H18 => ?_)
          have j19 := H18
          by_cases c20 : r17 = 0
          · refine br1 c20 ?_
            have d21 := eq_z (x := (Int32.toInt r17)) (y := 0) rfl rfl c20
            have t22 : (Int32.toInt (x_17_0 + 1)) = (Int32.toInt x_17_0) + 1 := add_z rfl rfl (by omega) (by omega)
            exact ih _ _ _ _ _ _ _ ⟨⟨by omega, by omega⟩, j15, j16, ⟨by omega, by omega⟩⟩ (by omega)
          · refine br0 c20 ?_
            have d23 := ne_z (x := (Int32.toInt r17)) (y := 0) rfl rfl c20
            have t24 : (Int32.toInt (x_17_0 + 1)) = (Int32.toInt x_17_0) + 1 := add_z rfl rfl (by omega) (by omega)
            exact ih _ _ _ _ _ _ _ ⟨⟨by omega, by omega⟩, j15, j16, ⟨by omega, by omega⟩⟩ (by omega)
        · refine br0 c10 ?_
          have d25 := c_ne (x := (Int64.toInt ((p0_rock_dug >>> (x_17_0.toInt64 &&& 63)) &&& 1))) (y := 0) rfl rfl c10
          refine br0 (by decide) ?_
          have t26 : (Int32.toInt (x_17_0 + 1)) = (Int32.toInt x_17_0) + 1 := add_z rfl rfl (by omega) (by omega)
          exact ih _ _ _ _ _ _ _ ⟨⟨by omega, by omega⟩, h_x_17_2, h_x_17_3, ⟨by omega, by omega⟩⟩ (by omega)
set_option maxRecDepth 100000 in
theorem s_X3_hiddenCells_N (p0_lawCount : Int32) (p0_force : Int32) (f_p0_laws : Nat → Option Nat) (h0_asker_cell : Int32) (h0_asker_shaft : Int32) (h0_asker_kind : Int32) (p0_rock_dug : Int64) (f_p0_rock_kind : Nat → Int32) (f_h0_said : Nat → Int32) (f_h0_lost : Nat → Int32) (p0_folk_hearsay : Int32) (f_p0_folk_hearsayColumn : Nat → Int32) (f_p0_folk_hearsayLoud : Nat → Int32) (h_p0_lawCount : 0 ≤ p0_lawCount.toInt ∧ p0_lawCount.toInt ≤ 6) (h_p0_force : (-1) ≤ p0_force.toInt ∧ p0_force.toInt ≤ (-1)) (h_h0_asker_cell : 0 ≤ h0_asker_cell.toInt ∧ h0_asker_cell.toInt ≤ 39) (h_f_p0_rock_kind : KI f_p0_rock_kind) (h_f_h0_said : SA f_h0_said) (h_f_h0_lost : LO f_h0_lost) (h_p0_folk_hearsay : 0 ≤ p0_folk_hearsay.toInt ∧ p0_folk_hearsay.toInt ≤ 8) (h_f_p0_folk_hearsayColumn : HC f_p0_folk_hearsayColumn) (h_f_p0_folk_hearsayLoud : HL f_p0_folk_hearsayLoud) {Q : Int64 → (Int32 × Int32 × Int32 × (Nat → Int32) × (Nat → Int32)) → Prop} (hq : ∀ (r : Int64) (u_0 : Int32) (u_1 : Int32) (u_2 : Int32) (u_3 : Nat → Int32) (u_4 : Nat → Int32), (0 ≤ u_0.toInt ∧ u_0.toInt ≤ 39) ∧ (SA u_3) ∧ (LO u_4) → Q r (u_0, u_1, u_2, u_3, u_4)) : wp_X3_hiddenCells_N p0_lawCount p0_force f_p0_laws h0_asker_cell h0_asker_shaft h0_asker_kind p0_rock_dug f_p0_rock_kind f_h0_said f_h0_lost p0_folk_hearsay f_p0_folk_hearsayColumn f_p0_folk_hearsayLoud Q := by
  unfold wp_X3_hiddenCells_N
  refine o_X10_lawInForce_N _ _ _ _ ?_
  refine o_X10_lawOf_N _ _ _ _ ?_
  refine br1 (z_lt (x := (Int32.toInt p0_force)) (y := 0) rfl rfl (by omega)) ?_
  refine o_X0_turnTo_N _ ?_
  have k3 : Int32.toInt 0 = 0 := rfl
  have k4 : Int64.toInt 0 = 0 := rfl
  refine sl_X3_hiddenCells_N_17 p0_rock_dug (f_p0_rock_kind) p0_folk_hearsay (f_p0_folk_hearsayColumn) (f_p0_folk_hearsayLoud) h_f_p0_rock_kind ⟨by omega, by omega⟩ h_f_p0_folk_hearsayColumn h_f_p0_folk_hearsayLoud _ (fun x1_0 x1_1 x1_2 x1_3 x1_4 x1_5 x1_6 X2 => ?_) 1000000000000 0 0 (f_h0_said) (f_h0_lost) h0_asker_cell h0_asker_shaft h0_asker_kind ⟨(by decide), h_f_h0_said, h_f_h0_lost, ⟨by omega, by omega⟩⟩ (by omega)
  have j5 := X2.1
  have j6 := X2.2.1
  have j7 := X2.2.2.1
  have j8 := X2.2.2.2
  exact hq _ _ _ _ _ _ ⟨⟨by omega, by omega⟩, j6, j7⟩


set_option maxRecDepth 100000 in
theorem s_X11_hidden_N (h0_site_world_lawCount : Int32) (h0_site_world_force : Int32) (f_h0_site_world_laws : Nat → Option Nat) (h0_asker_cell : Int32) (h0_asker_shaft : Int32) (h0_asker_kind : Int32) (h0_site_world_rock_dug : Int64) (f_h0_site_world_rock_kind : Nat → Int32) (f_h0_ears_said : Nat → Int32) (f_h0_ears_lost : Nat → Int32) (h0_site_world_folk_hearsay : Int32) (f_h0_site_world_folk_hearsayColumn : Nat → Int32) (f_h0_site_world_folk_hearsayLoud : Nat → Int32) (h_h0_site_world_lawCount : 0 ≤ h0_site_world_lawCount.toInt ∧ h0_site_world_lawCount.toInt ≤ 6) (h_h0_site_world_force : (-1) ≤ h0_site_world_force.toInt ∧ h0_site_world_force.toInt ≤ (-1)) (h_h0_asker_cell : 0 ≤ h0_asker_cell.toInt ∧ h0_asker_cell.toInt ≤ 39) (h_f_h0_site_world_rock_kind : KI f_h0_site_world_rock_kind) (h_f_h0_ears_said : SA f_h0_ears_said) (h_f_h0_ears_lost : LO f_h0_ears_lost) (h_h0_site_world_folk_hearsay : 0 ≤ h0_site_world_folk_hearsay.toInt ∧ h0_site_world_folk_hearsay.toInt ≤ 8) (h_f_h0_site_world_folk_hearsayColumn : HC f_h0_site_world_folk_hearsayColumn) (h_f_h0_site_world_folk_hearsayLoud : HL f_h0_site_world_folk_hearsayLoud) {Q : Int64 → (Int32 × Int32 × Int32 × (Nat → Int32) × (Nat → Int32)) → Prop} (hq : ∀ (r : Int64) (u_0 : Int32) (u_1 : Int32) (u_2 : Int32) (u_3 : Nat → Int32) (u_4 : Nat → Int32), (0 ≤ u_0.toInt ∧ u_0.toInt ≤ 39) ∧ (SA u_3) ∧ (LO u_4) → Q r (u_0, u_1, u_2, u_3, u_4)) : wp_X11_hidden_N h0_site_world_lawCount h0_site_world_force f_h0_site_world_laws h0_asker_cell h0_asker_shaft h0_asker_kind h0_site_world_rock_dug f_h0_site_world_rock_kind f_h0_ears_said f_h0_ears_lost h0_site_world_folk_hearsay f_h0_site_world_folk_hearsayColumn f_h0_site_world_folk_hearsayLoud Q := by
  unfold wp_X11_hidden_N
  refine s_X3_hiddenCells_N h0_site_world_lawCount h0_site_world_force (f_h0_site_world_laws) h0_asker_cell h0_asker_shaft h0_asker_kind h0_site_world_rock_dug (f_h0_site_world_rock_kind) (f_h0_ears_said) (f_h0_ears_lost) h0_site_world_folk_hearsay (f_h0_site_world_folk_hearsayColumn) (f_h0_site_world_folk_hearsayLoud) ⟨by omega, by omega⟩ ⟨by omega, by omega⟩ ⟨by omega, by omega⟩ h_f_h0_site_world_rock_kind h_f_h0_ears_said h_f_h0_ears_lost ⟨by omega, by omega⟩ h_f_h0_site_world_folk_hearsayColumn h_f_h0_site_world_folk_hearsayLoud (fun r1 u2_0 u2_1 u2_2 u2_3 u2_4 H3 => ?_)
  have j4 := H3.1
  have j5 := H3.2.1
  have j6 := H3.2.2
  refine un5_i ?_
  exact hq _ _ _ _ _ _ ⟨⟨by omega, by omega⟩, j5, j6⟩


set_option maxRecDepth 100000 in
theorem sl_X3_mostAlike_14 (a : Int64) (b : Int32) (f_h0_said : Nat → Int32) (f_h0_lost : Nat → Int32) (h_b : 0 ≤ b.toInt ∧ b.toInt ≤ 7) (h_f_h0_said : SA f_h0_said) (h_f_h0_lost : LO f_h0_lost) (Qb : Int32 → Int32 → (Nat → Int32) → Prop) (KX : ∀ (x_14_0 : Int32) (x_14_1 : Int32) (x_14_2 : Nat → Int32), (40 ≤ x_14_0.toInt ∧ x_14_0.toInt ≤ 40) ∧ (0 ≤ x_14_1.toInt ∧ x_14_1.toInt ≤ 2147483647) → Qb x_14_0 x_14_1 x_14_2) : ∀ (n : Nat) (x_14_0 : Int32) (x_14_1 : Int32) (x_14_2 : Nat → Int32), (0 ≤ x_14_0.toInt ∧ x_14_0.toInt ≤ 40) ∧ (0 ≤ x_14_1.toInt ∧ x_14_1.toInt ≤ 2147483647) → 41 - x_14_0.toInt < (n : Int) → wl_X3_mostAlike_14 a b f_h0_said f_h0_lost Qb n x_14_0 x_14_1 x_14_2 := by
  intro n
  induction n with
  | zero =>
    intro x_14_0 x_14_1 x_14_2 hI hm
    exfalso; have hm : 41 - x_14_0.toInt < 0 := hm; omega
  | succ n ih =>
    intro x_14_0 x_14_1 x_14_2 hI hm
    have hm : 41 - x_14_0.toInt < (n : Int) + 1 := by simpa using hm
    have h_x_14_0 := hI.1
    have h_x_14_1 := hI.2
    unfold wl_X3_mostAlike_14
    by_cases c3 : 40 ≤ x_14_0
    · refine br1 c3 ?_
      have d4 := le_z (x := 40) (y := (Int32.toInt x_14_0)) rfl rfl c3
      have t5 := i32_hi x_14_1
      exact KX _ _ _ ⟨⟨by omega, by omega⟩, ⟨by omega, by omega⟩⟩
    · refine br0 c3 ?_
      have d6 := nle_z (x := 40) (y := (Int32.toInt x_14_0)) rfl rfl c3
      by_cases c7 : (lg_cmp ((a >>> (x_14_0.toInt64 &&& 63)) &&& 1) 0) = 0
      · refine br1 c7 ?_
        have d8 := c_eq (x := (Int64.toInt ((a >>> (x_14_0.toInt64 &&& 63)) &&& 1))) (y := 0) rfl rfl c7
        have t9 : (Int32.toInt (x_14_0 + 1)) = (Int32.toInt x_14_0) + 1 := add_z rfl rfl (by omega) (by omega)
        have t10 := i32_hi x_14_1
        exact ih _ _ _ ⟨⟨by omega, by omega⟩, ⟨by omega, by omega⟩⟩ (by omega)
      · refine br0 c7 ?_
        have d11 := c_ne (x := (Int64.toInt ((a >>> (x_14_0.toInt64 &&& 63)) &&& 1))) (y := 0) rfl rfl c7
        refine s_X3_loudness x_14_0 b (f_h0_said) (f_h0_lost) ⟨by omega, by omega⟩ ⟨by omega, by omega⟩ h_f_h0_said h_f_h0_lost (fun r12 H13 => ?_)
        have j14 := H13
        refine o_X11_nearest _ _ _ _ ?_
        have t15 := mn_z (a := 99) (b := r12)
        have k16 : Int32.toInt 99 = 99 := rfl
        have t17 := mx_z (a := 0) (b := (if r12 < 99 then r12 else 99))
        have k18 : Int32.toInt 0 = 0 := rfl
        refine ⟨vpi (x := (Int32.toInt (if 0 < (if r12 < 99 then r12 else 99) then (if r12 < 99 then r12 else 99) else 0))) rfl (by omega) (by omega), ?_⟩
        refine ⟨vpi (x := (Int32.toInt (if 0 < (if r12 < 99 then r12 else 99) then (if r12 < 99 then r12 else 99) else 0))) rfl (by omega) (by omega), ?_⟩
        refine ⟨vpi (x := (Int32.toInt (if 0 < (if r12 < 99 then r12 else 99) then (if r12 < 99 then r12 else 99) else 0))) rfl (by omega) (by omega), ?_⟩
        have t19 : (Int32.toInt (x_14_0 + 1)) = (Int32.toInt x_14_0) + 1 := add_z rfl rfl (by omega) (by omega)
        have t20 := mx_z (a := x_14_1) (b := ((x_14_2 (if 0 < (if r12 < 99 then r12 else 99) then (if r12 < 99 then r12 else 99) else 0).toNatClampNeg) + 1))
        have t21 := i32_hi (if x_14_1 < ((x_14_2 (if 0 < (if r12 < 99 then r12 else 99) then (if r12 < 99 then r12 else 99) else 0).toNatClampNeg) + 1) then ((x_14_2 (if 0 < (if r12 < 99 then r12 else 99) then (if r12 < 99 then r12 else 99) else 0).toNatClampNeg) + 1) else x_14_1)
        exact ih _ _ _ ⟨⟨by omega, by omega⟩, ⟨by omega, by omega⟩⟩ (by omega)
set_option maxRecDepth 100000 in
theorem s_X3_mostAlike (a : Int64) (b : Int32) (f_h0_alike : Nat → Int32) (f_h0_said : Nat → Int32) (f_h0_lost : Nat → Int32) (h_b : 0 ≤ b.toInt ∧ b.toInt ≤ 7) (h_f_h0_said : SA f_h0_said) (h_f_h0_lost : LO f_h0_lost) {Q : Int32 → (Nat → Int32) → Prop} (hq : ∀ (r : Int32) (u : Nat → Int32), True → Q r u) : wp_X3_mostAlike a b f_h0_alike f_h0_said f_h0_lost Q := by
  unfold wp_X3_mostAlike
  refine s_J7_fill_53178 0 100 (f_h0_alike) (by omega) (fun u1 H2 => ?_)
  have k5 : Int32.toInt 0 = 0 := rfl
  refine sl_X3_mostAlike_14 a b (f_h0_said) (f_h0_lost) ⟨by omega, by omega⟩ h_f_h0_said h_f_h0_lost _ (fun x3_0 x3_1 x3_2 X4 => ?_) 1000000000000 0 0 (u1) ⟨(by decide), (by decide)⟩ (by omega)
  have j6 := X4.1
  have j7 := X4.2
  exact hq _ _ trivial


set_option maxRecDepth 100000 in
theorem sl_X11_next_N_52 (y_26_0 : Int64) (y_26_6 : Nat → Int32) (y_26_7 : Nat → Int32) (h_y_26_6 : SA y_26_6) (h_y_26_7 : LO y_26_7) (Qb : Int32 → Int32 → Int32 → (Nat → Int32) → Prop) (KX : ∀ (x_52_0 : Int32) (x_52_1 : Int32) (x_52_2 : Int32) (x_52_3 : Nat → Int32), (8 ≤ x_52_0.toInt ∧ x_52_0.toInt ≤ 8) ∧ (0 ≤ x_52_2.toInt ∧ x_52_2.toInt ≤ 2147483647) → Qb x_52_0 x_52_1 x_52_2 x_52_3) : ∀ (n : Nat) (x_52_0 : Int32) (x_52_1 : Int32) (x_52_2 : Int32) (x_52_3 : Nat → Int32), (1 ≤ x_52_0.toInt ∧ x_52_0.toInt ≤ 8) ∧ (0 ≤ x_52_2.toInt ∧ x_52_2.toInt ≤ 2147483647) → 9 - x_52_0.toInt < (n : Int) → wl_X11_next_N_52 y_26_0 y_26_6 y_26_7 Qb n x_52_0 x_52_1 x_52_2 x_52_3 := by
  intro n
  induction n with
  | zero =>
    intro x_52_0 x_52_1 x_52_2 x_52_3 hI hm
    exfalso; have hm : 9 - x_52_0.toInt < 0 := hm; omega
  | succ n ih =>
    intro x_52_0 x_52_1 x_52_2 x_52_3 hI hm
    have hm : 9 - x_52_0.toInt < (n : Int) + 1 := by simpa using hm
    have h_x_52_0 := hI.1
    have h_x_52_2 := hI.2
    unfold wl_X11_next_N_52
    by_cases c19 : 8 ≤ x_52_0
    · refine br1 c19 ?_
      have d20 := le_z (x := 8) (y := (Int32.toInt x_52_0)) rfl rfl c19
      have t21 := i32_hi x_52_2
      exact KX _ _ _ _ ⟨⟨by omega, by omega⟩, ⟨by omega, by omega⟩⟩
    · refine br0 c19 ?_
      have d22 := nle_z (x := 8) (y := (Int32.toInt x_52_0)) rfl rfl c19
      refine s_X3_mostAlike y_26_0 x_52_0 (x_52_3) (y_26_6) (y_26_7) ⟨by omega, by omega⟩ h_y_26_6 h_y_26_7 (fun r23 u24 H25 => ?_)
      by_cases c26 : x_52_1 ≤ r23
      · refine br1 c26 ?_
        have d27 := le_z (x := (Int32.toInt x_52_1)) (y := (Int32.toInt r23)) rfl rfl c26
        have t28 : (Int32.toInt (x_52_0 + 1)) = (Int32.toInt x_52_0) + 1 := add_z rfl rfl (by omega) (by omega)
        have t29 := i32_hi x_52_2
        exact ih _ _ _ _ ⟨⟨by omega, by omega⟩, ⟨by omega, by omega⟩⟩ (by omega)
      · refine br0 c26 ?_
        have d30 := nle_z (x := (Int32.toInt x_52_1)) (y := (Int32.toInt r23)) rfl rfl c26
        have t31 : (Int32.toInt (x_52_0 + 1)) = (Int32.toInt x_52_0) + 1 := add_z rfl rfl (by omega) (by omega)
        have t32 := i32_hi x_52_0
        exact ih _ _ _ _ ⟨⟨by omega, by omega⟩, ⟨by omega, by omega⟩⟩ (by omega)
set_option maxRecDepth 100000 in
theorem s_X11_next_N (a : Int32) (h0_site_world : Nat) (h0_site_world_lawCount : Int32) (h0_site_world_force : Int32) (f_h0_site_world_laws : Nat → Option Nat) (h0_asker_world : Value) (h0_asker_law : Value) (h0_asker_cell : Int32) (h0_asker_shaft : Int32) (h0_asker_kind : Int32) (h0_site_world_rock_dug : Int64) (f_h0_site_world_rock_kind : Nat → Int32) (f_h0_ears_said : Nat → Int32) (f_h0_ears_lost : Nat → Int32) (h0_site_world_folk_hearsay : Int32) (f_h0_site_world_folk_hearsayColumn : Nat → Int32) (f_h0_site_world_folk_hearsayLoud : Nat → Int32) (f_h0_ears_alike : Nat → Int32) (h_h0_site_world_lawCount : 0 ≤ h0_site_world_lawCount.toInt ∧ h0_site_world_lawCount.toInt ≤ 6) (h_h0_site_world_force : (-1) ≤ h0_site_world_force.toInt ∧ h0_site_world_force.toInt ≤ (-1)) (h_h0_asker_cell : 0 ≤ h0_asker_cell.toInt ∧ h0_asker_cell.toInt ≤ 39) (h_f_h0_site_world_rock_kind : KI f_h0_site_world_rock_kind) (h_f_h0_ears_said : SA f_h0_ears_said) (h_f_h0_ears_lost : LO f_h0_ears_lost) (h_h0_site_world_folk_hearsay : 0 ≤ h0_site_world_folk_hearsay.toInt ∧ h0_site_world_folk_hearsay.toInt ≤ 8) (h_f_h0_site_world_folk_hearsayColumn : HC f_h0_site_world_folk_hearsayColumn) (h_f_h0_site_world_folk_hearsayLoud : HL f_h0_site_world_folk_hearsayLoud) {Q : Int32 → (Value × Value × Int32 × Int32 × Int32 × (Nat → Int32) × (Nat → Int32) × (Nat → Int32)) → Prop} (hq : ∀ (r : Int32) (u_0 : Value) (u_1 : Value) (u_2 : Int32) (u_3 : Int32) (u_4 : Int32) (u_5 : Nat → Int32) (u_6 : Nat → Int32) (u_7 : Nat → Int32), (0 ≤ u_2.toInt ∧ u_2.toInt ≤ 39) ∧ (SA u_5) ∧ (LO u_6) → Q r (u_0, u_1, u_2, u_3, u_4, u_5, u_6, u_7)) : wp_X11_next_N a h0_site_world h0_site_world_lawCount h0_site_world_force f_h0_site_world_laws h0_asker_world h0_asker_law h0_asker_cell h0_asker_shaft h0_asker_kind h0_site_world_rock_dug f_h0_site_world_rock_kind f_h0_ears_said f_h0_ears_lost h0_site_world_folk_hearsay f_h0_site_world_folk_hearsayColumn f_h0_site_world_folk_hearsayLoud f_h0_ears_alike Q := by
  unfold wp_X11_next_N
  refine o_X11_isWithin _ _ _ ?_
  by_cases c1 : a < 0
  · refine br1 c1 ?_
    have d2 := lt_z (x := (Int32.toInt a)) (y := 0) rfl rfl c1
    refine jn_s ?_
    refine br1 (by decide) ?_
    refine un8_i ?_
    refine br1 (by decide) ?_
    exact hq _ _ _ _ _ _ _ _ _ ⟨⟨by omega, by omega⟩, h_f_h0_ears_said, h_f_h0_ears_lost⟩
  · refine br0 c1 ?_
    have d3 := nlt_z (x := (Int32.toInt a)) (y := 0) rfl rfl c1
    by_cases c4 : 2 ≤ a
    · refine br1 c4 ?_
      have d5 := le_z (x := 2) (y := (Int32.toInt a)) rfl rfl c4
      refine jn_s ?_
      refine br1 (by decide) ?_
      refine un8_i ?_
      refine br1 (by decide) ?_
      exact hq _ _ _ _ _ _ _ _ _ ⟨⟨by omega, by omega⟩, h_f_h0_ears_said, h_f_h0_ears_lost⟩
    · refine br0 c4 ?_
      have d6 := nle_z (x := 2) (y := (Int32.toInt a)) rfl rfl c4
      refine jn_s ?_
      refine br0 (by decide) ?_
      refine s_X3_hiddenCells_N h0_site_world_lawCount h0_site_world_force (f_h0_site_world_laws) h0_asker_cell h0_asker_shaft h0_asker_kind h0_site_world_rock_dug (f_h0_site_world_rock_kind) (f_h0_ears_said) (f_h0_ears_lost) h0_site_world_folk_hearsay (f_h0_site_world_folk_hearsayColumn) (f_h0_site_world_folk_hearsayLoud) ⟨by omega, by omega⟩ ⟨by omega, by omega⟩ ⟨by omega, by omega⟩ h_f_h0_site_world_rock_kind h_f_h0_ears_said h_f_h0_ears_lost ⟨by omega, by omega⟩ h_f_h0_site_world_folk_hearsayColumn h_f_h0_site_world_folk_hearsayLoud (fun r7 u8_0 u8_1 u8_2 u8_3 u8_4 H9 => ?_)
      have j10 := H9.1
      have j11 := H9.2.1
      have j12 := H9.2.2
      refine un5_i ?_
      refine un8_i ?_
      by_cases c13 : (lg_cmp r7 0) = 0
      · refine br1 c13 ?_
        have d14 := c_eq (x := (Int64.toInt r7)) (y := 0) rfl rfl c13
        exact hq _ _ _ _ _ _ _ _ _ ⟨⟨by omega, by omega⟩, j11, j12⟩
      · refine br0 c13 ?_
        have d15 := c_ne (x := (Int64.toInt r7)) (y := 0) rfl rfl c13
        refine s_X3_mostAlike r7 0 (f_h0_ears_alike) (u8_3) (u8_4) (by decide) j11 j12 (fun r16 u17 H18 => ?_)
        have k21 : Int32.toInt 1 = 1 := rfl
        have k22 : Int32.toInt 0 = 0 := rfl
        refine sl_X11_next_N_52 r7 (u8_3) (u8_4) j11 j12 _ (fun x19_0 x19_1 x19_2 x19_3 X20 => ?_) 1000000000000 1 r16 0 (u17) ⟨(by decide), (by decide)⟩ (by omega)
        have j23 := X20.1
        have j24 := X20.2
        by_cases c25 : a = 0
        · refine br1 c25 ?_
          have d26 := eq_z (x := (Int32.toInt a)) (y := 0) rfl rfl c25
          exact hq _ _ _ _ _ _ _ _ _ ⟨⟨by omega, by omega⟩, j11, j12⟩
        · refine br0 c25 ?_
          have d27 := ne_z (x := (Int32.toInt a)) (y := 0) rfl rfl c25
          exact hq _ _ _ _ _ _ _ _ _ ⟨⟨by omega, by omega⟩, j11, j12⟩


set_option maxRecDepth 100000 in
theorem s_X10_mayBeDugOn (a : Int32) (f_h0_crew_cell : Nat → Int32) (f_h0_rock_kind : Nat → Int32) (h_a : 0 ≤ a.toInt ∧ a.toInt ≤ 5) (h_f_h0_crew_cell : CE f_h0_crew_cell) (h_f_h0_rock_kind : KI f_h0_rock_kind) {Q : Int32 → Prop} (hq : ∀ (r : Int32), (0 ≤ r.toInt ∧ r.toInt ≤ 1) → Q r) : wp_X10_mayBeDugOn a f_h0_crew_cell f_h0_rock_kind Q := by
  unfold wp_X10_mayBeDugOn
  refine ⟨vpi (x := (Int32.toInt a)) rfl (by omega) (by omega), ?_⟩
  refine o_X6_endsAWay _ _ _ ?_
  have g1 : 0 ≤ (Int32.toInt (f_h0_crew_cell a.toNatClampNeg)) ∧ (Int32.toInt (f_h0_crew_cell a.toNatClampNeg)) ≤ 39 := CE.at_0 h_f_h0_crew_cell (tnz (x := (Int32.toInt a)) rfl (by omega)) (by omega) (by omega)
  refine ⟨vpi (x := (Int32.toInt (f_h0_crew_cell a.toNatClampNeg))) rfl (by omega) (by omega), ?_⟩
  by_cases c2 : (f_h0_rock_kind (f_h0_crew_cell a.toNatClampNeg).toNatClampNeg) = 2
  · refine br1 c2 ?_
    have g3 : 0 ≤ (Int32.toInt (f_h0_rock_kind (f_h0_crew_cell a.toNatClampNeg).toNatClampNeg)) ∧ (Int32.toInt (f_h0_rock_kind (f_h0_crew_cell a.toNatClampNeg).toNatClampNeg)) ≤ 3 := KI.at_0 h_f_h0_rock_kind (tnz (x := (Int32.toInt (f_h0_crew_cell a.toNatClampNeg))) rfl (by omega)) (by omega) (by omega)
    have d4 := eq_z (x := (Int32.toInt (f_h0_rock_kind (f_h0_crew_cell a.toNatClampNeg).toNatClampNeg))) (y := 2) rfl rfl c2
    refine br0 (by decide) ?_
    exact hq _ (by decide)
  · refine br0 c2 ?_
    have g5 : 0 ≤ (Int32.toInt (f_h0_rock_kind (f_h0_crew_cell a.toNatClampNeg).toNatClampNeg)) ∧ (Int32.toInt (f_h0_rock_kind (f_h0_crew_cell a.toNatClampNeg).toNatClampNeg)) ≤ 3 := KI.at_0 h_f_h0_rock_kind (tnz (x := (Int32.toInt (f_h0_crew_cell a.toNatClampNeg))) rfl (by omega)) (by omega) (by omega)
    have d6 := ne_z (x := (Int32.toInt (f_h0_rock_kind (f_h0_crew_cell a.toNatClampNeg).toNatClampNeg))) (y := 2) rfl rfl c2
    refine ⟨vpi (x := (Int32.toInt (f_h0_crew_cell a.toNatClampNeg))) rfl (by omega) (by omega), ?_⟩
    by_cases c7 : (f_h0_rock_kind (f_h0_crew_cell a.toNatClampNeg).toNatClampNeg) = 3
    · refine br1 c7 ?_
      have d8 := eq_z (x := (Int32.toInt (f_h0_rock_kind (f_h0_crew_cell a.toNatClampNeg).toNatClampNeg))) (y := 3) rfl rfl c7
      refine br0 (by decide) ?_
      exact hq _ (by decide)
    · refine br0 c7 ?_
      have d9 := ne_z (x := (Int32.toInt (f_h0_rock_kind (f_h0_crew_cell a.toNatClampNeg).toNatClampNeg))) (y := 3) rfl rfl c7
      refine br1 (by decide) ?_
      exact hq _ (by decide)


set_option maxRecDepth 100000 in
theorem s_X7_neighbour (a : Int32) (b : Int32) (h_a : 0 ≤ a.toInt ∧ a.toInt ≤ 39) {Q : Int32 → Prop} (hq : ∀ (r : Int32), ((-1) ≤ r.toInt ∧ r.toInt ≤ 39) → Q r) : wp_X7_neighbour a b Q := by
  unfold wp_X7_neighbour
  by_cases c1 : b = 0
  · refine br1 c1 ?_
    have d2 := eq_z (x := (Int32.toInt b)) (y := 0) rfl rfl c1
    by_cases c3 : (a - a / 8 * 8) ≤ 0
    · refine br1 c3 ?_
      have t4 : (Int32.toInt (a - a / 8 * 8)) = (Int32.toInt a) % 8 := rem_z rfl rfl (by omega) (by omega)
      have d5 := le_z (x := (Int32.toInt (a - a / 8 * 8))) (y := 0) rfl rfl c3
      exact hq _ (by decide)
    · refine br0 c3 ?_
      have t6 : (Int32.toInt (a - a / 8 * 8)) = (Int32.toInt a) % 8 := rem_z rfl rfl (by omega) (by omega)
      have d7 := nle_z (x := (Int32.toInt (a - a / 8 * 8))) (y := 0) rfl rfl c3
      have t8 : (Int32.toInt (a - 1)) = (Int32.toInt a) - 1 := sub_z rfl rfl (by omega) (by omega)
      exact hq _ ⟨by omega, by omega⟩
  · refine br0 c1 ?_
    have d9 := ne_z (x := (Int32.toInt b)) (y := 0) rfl rfl c1
    by_cases c10 : b = 2
    · refine br1 c10 ?_
      have d11 := eq_z (x := (Int32.toInt b)) (y := 2) rfl rfl c10
      by_cases c12 : 7 ≤ (a - a / 8 * 8)
      · refine br1 c12 ?_
        have t13 : (Int32.toInt (a - a / 8 * 8)) = (Int32.toInt a) % 8 := rem_z rfl rfl (by omega) (by omega)
        have d14 := le_z (x := 7) (y := (Int32.toInt (a - a / 8 * 8))) rfl rfl c12
        exact hq _ (by decide)
      · refine br0 c12 ?_
        have t15 : (Int32.toInt (a - a / 8 * 8)) = (Int32.toInt a) % 8 := rem_z rfl rfl (by omega) (by omega)
        have d16 := nle_z (x := 7) (y := (Int32.toInt (a - a / 8 * 8))) rfl rfl c12
        have t17 : (Int32.toInt (a + 1)) = (Int32.toInt a) + 1 := add_z rfl rfl (by omega) (by omega)
        exact hq _ ⟨by omega, by omega⟩
    · refine br0 c10 ?_
      have d18 := ne_z (x := (Int32.toInt b)) (y := 2) rfl rfl c10
      by_cases c19 : 40 ≤ (a + 8)
      · refine br1 c19 ?_
        have t20 : (Int32.toInt (a + 8)) = (Int32.toInt a) + 8 := add_z rfl rfl (by omega) (by omega)
        have d21 := le_z (x := 40) (y := (Int32.toInt (a + 8))) rfl rfl c19
        exact hq _ (by decide)
      · refine br0 c19 ?_
        have t22 : (Int32.toInt (a + 8)) = (Int32.toInt a) + 8 := add_z rfl rfl (by omega) (by omega)
        have d23 := nle_z (x := 40) (y := (Int32.toInt (a + 8))) rfl rfl c19
        exact hq _ ⟨by omega, by omega⟩


set_option maxRecDepth 100000 in
theorem sl_X9_weigh_N_3 (d : Int32) (p1_world_rock_dug : Int64) (f_p1_world_rock_kind : Nat → Int32) (f_p1_world_rock_hard : Nat → Int32) (h_f_p1_world_rock_kind : KI f_p1_world_rock_kind) (h_f_p1_world_rock_hard : HA f_p1_world_rock_hard) (Qb : Int32 → Int32 → Int32 → Int32 → (Nat → Int32) → (Nat → Int32) → Prop) (KX : ∀ (x_3_0 : Int32) (x_3_1 : Int32) (x_3_2 : Int32) (x_3_3 : Int32) (x_3_4 : Nat → Int32) (x_3_5 : Nat → Int32), (40 ≤ x_3_0.toInt ∧ x_3_0.toInt ≤ 40) ∧ (0 ≤ x_3_1.toInt ∧ x_3_1.toInt ≤ 39) ∧ (CS x_3_4) → Qb x_3_0 x_3_1 x_3_2 x_3_3 x_3_4 x_3_5) : ∀ (n : Nat) (x_3_0 : Int32) (x_3_1 : Int32) (x_3_2 : Int32) (x_3_3 : Int32) (x_3_4 : Nat → Int32) (x_3_5 : Nat → Int32), (0 ≤ x_3_0.toInt ∧ x_3_0.toInt ≤ 40) ∧ (0 ≤ x_3_1.toInt ∧ x_3_1.toInt ≤ 39) ∧ (CS x_3_4) → 41 - x_3_0.toInt < (n : Int) → wl_X9_weigh_N_3 d p1_world_rock_dug f_p1_world_rock_kind f_p1_world_rock_hard Qb n x_3_0 x_3_1 x_3_2 x_3_3 x_3_4 x_3_5 := by
  intro n
  induction n with
  | zero =>
    intro x_3_0 x_3_1 x_3_2 x_3_3 x_3_4 x_3_5 hI hm
    exfalso; have hm : 41 - x_3_0.toInt < 0 := hm; omega
  | succ n ih =>
    intro x_3_0 x_3_1 x_3_2 x_3_3 x_3_4 x_3_5 hI hm
    have hm : 41 - x_3_0.toInt < (n : Int) + 1 := by simpa using hm
    have h_x_3_0 := hI.1
    have h_x_3_1 := hI.2.1
    have h_x_3_4 := hI.2.2
    unfold wl_X9_weigh_N_3
    by_cases c1 : 40 ≤ x_3_0
    · refine br1 c1 ?_
      have d2 := le_z (x := 40) (y := (Int32.toInt x_3_0)) rfl rfl c1
      exact KX _ _ _ _ _ _ ⟨⟨by omega, by omega⟩, ⟨by omega, by omega⟩, h_x_3_4⟩
    · refine br0 c1 ?_
      have d3 := nle_z (x := 40) (y := (Int32.toInt x_3_0)) rfl rfl c1
      refine o_X6_isDug _ _ _ ?_
      by_cases c4 : (lg_cmp ((p1_world_rock_dug >>> (x_3_0.toInt64 &&& 63)) &&& 1) 0) = 0
      · refine br1 c4 ?_
        have d5 := c_eq (x := (Int64.toInt ((p1_world_rock_dug >>> (x_3_0.toInt64 &&& 63)) &&& 1))) (y := 0) rfl rfl c4
        refine jn_s ?_
        refine br1 (by decide) ?_
        refine s_X0_passesOf_N d x_3_0 x_3_1 x_3_2 x_3_3 (f_p1_world_rock_kind) ⟨by omega, by omega⟩ ⟨by omega, by omega⟩ h_f_p1_world_rock_kind (fun r6 u7_0 u7_1 u7_2 H8 => ?_)
        have j9 := H8.1
        have j10 := H8.2
        refine un3_i ?_
        by_cases c11 : r6 = 0
        · refine br1 c11 ?_
          have d12 := eq_z (x := (Int32.toInt r6)) (y := 0) rfl rfl c11
          refine un4_i ?_
          refine jn_s ?_
          refine br1 (by decide) ?_
          refine un4_i ?_
          refine ⟨vpi (x := (Int32.toInt x_3_0)) rfl (by omega) (by omega), ?_⟩
          refine o_X6_endsAWay _ _ _ ?_
          refine ⟨vpi (x := (Int32.toInt x_3_0)) rfl (by omega) (by omega), ?_⟩
          by_cases c13 : (f_p1_world_rock_kind x_3_0.toNatClampNeg) = 2
          · refine br1 c13 ?_
            have g14 : 0 ≤ (Int32.toInt (f_p1_world_rock_kind x_3_0.toNatClampNeg)) ∧ (Int32.toInt (f_p1_world_rock_kind x_3_0.toNatClampNeg)) ≤ 3 := KI.at_0 h_f_p1_world_rock_kind (tnz (x := (Int32.toInt x_3_0)) rfl (by omega)) (by omega) (by omega)
            have d15 := eq_z (x := (Int32.toInt (f_p1_world_rock_kind x_3_0.toNatClampNeg))) (y := 2) rfl rfl c13
            refine ⟨vpi (x := (Int32.toInt x_3_0)) rfl (by omega) (by omega), ?_⟩
            have t16 : (Int32.toInt (x_3_0 + 1)) = (Int32.toInt x_3_0) + 1 := add_z rfl rfl (by omega) (by omega)
            have R17 : CS (upd x_3_4 x_3_0.toNatClampNeg 0) := CS.up_0 h_x_3_4 (tnz (x := (Int32.toInt x_3_0)) rfl (by omega)) (by omega) (by omega) (w := 0) rfl (by omega) (by omega)
            exact ih _ _ _ _ _ _ ⟨⟨by omega, by omega⟩, ⟨by omega, by omega⟩, R17⟩ (by omega)
          · refine br0 c13 ?_
            have g18 : 0 ≤ (Int32.toInt (f_p1_world_rock_kind x_3_0.toNatClampNeg)) ∧ (Int32.toInt (f_p1_world_rock_kind x_3_0.toNatClampNeg)) ≤ 3 := KI.at_0 h_f_p1_world_rock_kind (tnz (x := (Int32.toInt x_3_0)) rfl (by omega)) (by omega) (by omega)
            have d19 := ne_z (x := (Int32.toInt (f_p1_world_rock_kind x_3_0.toNatClampNeg))) (y := 2) rfl rfl c13
            refine ⟨vpi (x := (Int32.toInt x_3_0)) rfl (by omega) (by omega), ?_⟩
            by_cases c20 : (f_p1_world_rock_kind x_3_0.toNatClampNeg) = 3
            · refine br1 c20 ?_
              have d21 := eq_z (x := (Int32.toInt (f_p1_world_rock_kind x_3_0.toNatClampNeg))) (y := 3) rfl rfl c20
              refine ⟨vpi (x := (Int32.toInt x_3_0)) rfl (by omega) (by omega), ?_⟩
              have t22 : (Int32.toInt (x_3_0 + 1)) = (Int32.toInt x_3_0) + 1 := add_z rfl rfl (by omega) (by omega)
              have R23 : CS (upd x_3_4 x_3_0.toNatClampNeg 0) := CS.up_0 h_x_3_4 (tnz (x := (Int32.toInt x_3_0)) rfl (by omega)) (by omega) (by omega) (w := 0) rfl (by omega) (by omega)
              exact ih _ _ _ _ _ _ ⟨⟨by omega, by omega⟩, ⟨by omega, by omega⟩, R23⟩ (by omega)
            · refine br0 c20 ?_
              have d24 := ne_z (x := (Int32.toInt (f_p1_world_rock_kind x_3_0.toNatClampNeg))) (y := 3) rfl rfl c20
              refine ⟨vpi (x := (Int32.toInt x_3_0)) rfl (by omega) (by omega), ?_⟩
              have t25 : (Int32.toInt (x_3_0 + 1)) = (Int32.toInt x_3_0) + 1 := add_z rfl rfl (by omega) (by omega)
              have R26 : CS (upd x_3_4 x_3_0.toNatClampNeg 0) := CS.up_0 h_x_3_4 (tnz (x := (Int32.toInt x_3_0)) rfl (by omega)) (by omega) (by omega) (w := 0) rfl (by omega) (by omega)
              exact ih _ _ _ _ _ _ ⟨⟨by omega, by omega⟩, ⟨by omega, by omega⟩, R26⟩ (by omega)
        · refine br0 c11 ?_
          have d27 := ne_z (x := (Int32.toInt r6)) (y := 0) rfl rfl c11
          refine un4_i ?_
          refine jn_s ?_
          refine br0 (by decide) ?_
          refine s_X0_digsOf_N d x_3_0 (f_p1_world_rock_kind) (f_p1_world_rock_hard) ⟨by omega, by omega⟩ h_f_p1_world_rock_kind h_f_p1_world_rock_hard (fun r28 u29_0 u29_1 u29_2 H30 => ?_)
          have j31 := H30.1
          have j32 := H30.2
          refine un3_i ?_
          refine un4_i ?_
          refine ⟨vpi (x := (Int32.toInt x_3_0)) rfl (by omega) (by omega), ?_⟩
          refine o_X6_endsAWay _ _ _ ?_
          refine ⟨vpi (x := (Int32.toInt x_3_0)) rfl (by omega) (by omega), ?_⟩
          by_cases c33 : (f_p1_world_rock_kind x_3_0.toNatClampNeg) = 2
          · refine br1 c33 ?_
            have g34 : 0 ≤ (Int32.toInt (f_p1_world_rock_kind x_3_0.toNatClampNeg)) ∧ (Int32.toInt (f_p1_world_rock_kind x_3_0.toNatClampNeg)) ≤ 3 := KI.at_0 h_f_p1_world_rock_kind (tnz (x := (Int32.toInt x_3_0)) rfl (by omega)) (by omega) (by omega)
            have d35 := eq_z (x := (Int32.toInt (f_p1_world_rock_kind x_3_0.toNatClampNeg))) (y := 2) rfl rfl c33
            refine ⟨vpi (x := (Int32.toInt x_3_0)) rfl (by omega) (by omega), ?_⟩
            have t36 : (Int32.toInt (x_3_0 + 1)) = (Int32.toInt x_3_0) + 1 := add_z rfl rfl (by omega) (by omega)
            have R37 : CS (upd x_3_4 x_3_0.toNatClampNeg r28) := CS.up_0 h_x_3_4 (tnz (x := (Int32.toInt x_3_0)) rfl (by omega)) (by omega) (by omega) (w := (Int32.toInt r28)) rfl (by omega) (by omega)
            exact ih _ _ _ _ _ _ ⟨⟨by omega, by omega⟩, ⟨by omega, by omega⟩, R37⟩ (by omega)
          · refine br0 c33 ?_
            have g38 : 0 ≤ (Int32.toInt (f_p1_world_rock_kind x_3_0.toNatClampNeg)) ∧ (Int32.toInt (f_p1_world_rock_kind x_3_0.toNatClampNeg)) ≤ 3 := KI.at_0 h_f_p1_world_rock_kind (tnz (x := (Int32.toInt x_3_0)) rfl (by omega)) (by omega) (by omega)
            have d39 := ne_z (x := (Int32.toInt (f_p1_world_rock_kind x_3_0.toNatClampNeg))) (y := 2) rfl rfl c33
            refine ⟨vpi (x := (Int32.toInt x_3_0)) rfl (by omega) (by omega), ?_⟩
            by_cases c40 : (f_p1_world_rock_kind x_3_0.toNatClampNeg) = 3
            · refine br1 c40 ?_
              have d41 := eq_z (x := (Int32.toInt (f_p1_world_rock_kind x_3_0.toNatClampNeg))) (y := 3) rfl rfl c40
              refine ⟨vpi (x := (Int32.toInt x_3_0)) rfl (by omega) (by omega), ?_⟩
              have t42 : (Int32.toInt (x_3_0 + 1)) = (Int32.toInt x_3_0) + 1 := add_z rfl rfl (by omega) (by omega)
              have R43 : CS (upd x_3_4 x_3_0.toNatClampNeg r28) := CS.up_0 h_x_3_4 (tnz (x := (Int32.toInt x_3_0)) rfl (by omega)) (by omega) (by omega) (w := (Int32.toInt r28)) rfl (by omega) (by omega)
              exact ih _ _ _ _ _ _ ⟨⟨by omega, by omega⟩, ⟨by omega, by omega⟩, R43⟩ (by omega)
            · refine br0 c40 ?_
              have d44 := ne_z (x := (Int32.toInt (f_p1_world_rock_kind x_3_0.toNatClampNeg))) (y := 3) rfl rfl c40
              refine ⟨vpi (x := (Int32.toInt x_3_0)) rfl (by omega) (by omega), ?_⟩
              have t45 : (Int32.toInt (x_3_0 + 1)) = (Int32.toInt x_3_0) + 1 := add_z rfl rfl (by omega) (by omega)
              have R46 : CS (upd x_3_4 x_3_0.toNatClampNeg r28) := CS.up_0 h_x_3_4 (tnz (x := (Int32.toInt x_3_0)) rfl (by omega)) (by omega) (by omega) (w := (Int32.toInt r28)) rfl (by omega) (by omega)
              exact ih _ _ _ _ _ _ ⟨⟨by omega, by omega⟩, ⟨by omega, by omega⟩, R46⟩ (by omega)
      · refine br0 c4 ?_
        have d47 := c_ne (x := (Int64.toInt ((p1_world_rock_dug >>> (x_3_0.toInt64 &&& 63)) &&& 1))) (y := 0) rfl rfl c4
        refine jn_s ?_
        refine br0 (by decide) ?_
        refine un4_i ?_
        refine jn_s ?_
        refine br1 (by decide) ?_
        refine un4_i ?_
        refine ⟨vpi (x := (Int32.toInt x_3_0)) rfl (by omega) (by omega), ?_⟩
        refine o_X6_endsAWay _ _ _ ?_
        refine ⟨vpi (x := (Int32.toInt x_3_0)) rfl (by omega) (by omega), ?_⟩
        by_cases c48 : (f_p1_world_rock_kind x_3_0.toNatClampNeg) = 2
        · refine br1 c48 ?_
          have g49 : 0 ≤ (Int32.toInt (f_p1_world_rock_kind x_3_0.toNatClampNeg)) ∧ (Int32.toInt (f_p1_world_rock_kind x_3_0.toNatClampNeg)) ≤ 3 := KI.at_0 h_f_p1_world_rock_kind (tnz (x := (Int32.toInt x_3_0)) rfl (by omega)) (by omega) (by omega)
          have d50 := eq_z (x := (Int32.toInt (f_p1_world_rock_kind x_3_0.toNatClampNeg))) (y := 2) rfl rfl c48
          refine ⟨vpi (x := (Int32.toInt x_3_0)) rfl (by omega) (by omega), ?_⟩
          have t51 : (Int32.toInt (x_3_0 + 1)) = (Int32.toInt x_3_0) + 1 := add_z rfl rfl (by omega) (by omega)
          have R52 : CS (upd x_3_4 x_3_0.toNatClampNeg 0) := CS.up_0 h_x_3_4 (tnz (x := (Int32.toInt x_3_0)) rfl (by omega)) (by omega) (by omega) (w := 0) rfl (by omega) (by omega)
          exact ih _ _ _ _ _ _ ⟨⟨by omega, by omega⟩, ⟨by omega, by omega⟩, R52⟩ (by omega)
        · refine br0 c48 ?_
          have g53 : 0 ≤ (Int32.toInt (f_p1_world_rock_kind x_3_0.toNatClampNeg)) ∧ (Int32.toInt (f_p1_world_rock_kind x_3_0.toNatClampNeg)) ≤ 3 := KI.at_0 h_f_p1_world_rock_kind (tnz (x := (Int32.toInt x_3_0)) rfl (by omega)) (by omega) (by omega)
          have d54 := ne_z (x := (Int32.toInt (f_p1_world_rock_kind x_3_0.toNatClampNeg))) (y := 2) rfl rfl c48
          refine ⟨vpi (x := (Int32.toInt x_3_0)) rfl (by omega) (by omega), ?_⟩
          by_cases c55 : (f_p1_world_rock_kind x_3_0.toNatClampNeg) = 3
          · refine br1 c55 ?_
            have d56 := eq_z (x := (Int32.toInt (f_p1_world_rock_kind x_3_0.toNatClampNeg))) (y := 3) rfl rfl c55
            refine ⟨vpi (x := (Int32.toInt x_3_0)) rfl (by omega) (by omega), ?_⟩
            have t57 : (Int32.toInt (x_3_0 + 1)) = (Int32.toInt x_3_0) + 1 := add_z rfl rfl (by omega) (by omega)
            have R58 : CS (upd x_3_4 x_3_0.toNatClampNeg 0) := CS.up_0 h_x_3_4 (tnz (x := (Int32.toInt x_3_0)) rfl (by omega)) (by omega) (by omega) (w := 0) rfl (by omega) (by omega)
            exact ih _ _ _ _ _ _ ⟨⟨by omega, by omega⟩, ⟨by omega, by omega⟩, R58⟩ (by omega)
          · refine br0 c55 ?_
            have d59 := ne_z (x := (Int32.toInt (f_p1_world_rock_kind x_3_0.toNatClampNeg))) (y := 3) rfl rfl c55
            refine ⟨vpi (x := (Int32.toInt x_3_0)) rfl (by omega) (by omega), ?_⟩
            have t60 : (Int32.toInt (x_3_0 + 1)) = (Int32.toInt x_3_0) + 1 := add_z rfl rfl (by omega) (by omega)
            have R61 : CS (upd x_3_4 x_3_0.toNatClampNeg 0) := CS.up_0 h_x_3_4 (tnz (x := (Int32.toInt x_3_0)) rfl (by omega)) (by omega) (by omega) (w := 0) rfl (by omega) (by omega)
            exact ih _ _ _ _ _ _ ⟨⟨by omega, by omega⟩, ⟨by omega, by omega⟩, R61⟩ (by omega)
set_option maxRecDepth 100000 in
theorem s_X9_weigh_N (d : Int32) (p1_world_rock_dug : Int64) (p1_cell : Int32) (p1_shaft : Int32) (p1_kind : Int32) (f_p1_world_rock_kind : Nat → Int32) (f_p1_world_rock_hard : Nat → Int32) (f_h0_cost : Nat → Int32) (f_h0_endsWay : Nat → Int32) (h_p1_cell : 0 ≤ p1_cell.toInt ∧ p1_cell.toInt ≤ 39) (h_f_p1_world_rock_kind : KI f_p1_world_rock_kind) (h_f_p1_world_rock_hard : HA f_p1_world_rock_hard) (h_f_h0_cost : CS f_h0_cost) {Q : (Int32 × Int32 × Int32 × (Nat → Int32) × (Nat → Int32)) → Prop} (hq : ∀ (u_0 : Int32) (u_1 : Int32) (u_2 : Int32) (u_3 : Nat → Int32) (u_4 : Nat → Int32), (0 ≤ u_0.toInt ∧ u_0.toInt ≤ 39) ∧ (CS u_3) → Q (u_0, u_1, u_2, u_3, u_4)) : wp_X9_weigh_N d p1_world_rock_dug p1_cell p1_shaft p1_kind f_p1_world_rock_kind f_p1_world_rock_hard f_h0_cost f_h0_endsWay Q := by
  unfold wp_X9_weigh_N
  have k3 : Int32.toInt 0 = 0 := rfl
  refine sl_X9_weigh_N_3 d p1_world_rock_dug (f_p1_world_rock_kind) (f_p1_world_rock_hard) h_f_p1_world_rock_kind h_f_p1_world_rock_hard _ (fun x1_0 x1_1 x1_2 x1_3 x1_4 x1_5 X2 => ?_) 1000000000000 0 p1_cell p1_shaft p1_kind (f_h0_cost) (f_h0_endsWay) ⟨(by decide), ⟨by omega, by omega⟩, h_f_h0_cost⟩ (by omega)
  have j4 := X2.1
  have j5 := X2.2.1
  have j6 := X2.2.2
  exact hq _ _ _ _ _ ⟨⟨by omega, by omega⟩, j6⟩


set_option maxRecDepth 100000 in
theorem s_X9_daysBy (a : Int32) (b : Int32) (f_h0_cost : Nat → Int32) (f_h0_left : Nat → Int32) (f_h0_endsWay : Nat → Int32) (h_f_h0_cost : CS f_h0_cost) (h_f_h0_left : LE f_h0_left) {Q : Int32 → Prop} (hq : ∀ (r : Int32), (0 ≤ r.toInt ∧ r.toInt ≤ 1000098) → Q r) : wp_X9_daysBy a b f_h0_cost f_h0_left f_h0_endsWay Q := by
  unfold wp_X9_daysBy
  by_cases c1 : a < 0
  · refine br1 c1 ?_
    have d2 := lt_z (x := (Int32.toInt a)) (y := 0) rfl rfl c1
    exact hq _ (by decide)
  · refine br0 c1 ?_
    have d3 := nlt_z (x := (Int32.toInt a)) (y := 0) rfl rfl c1
    by_cases c4 : 40 ≤ a
    · refine br1 c4 ?_
      have d5 := le_z (x := 40) (y := (Int32.toInt a)) rfl rfl c4
      exact hq _ (by decide)
    · refine br0 c4 ?_
      have d6 := nle_z (x := 40) (y := (Int32.toInt a)) rfl rfl c4
      refine ⟨vpi (x := (Int32.toInt a)) rfl (by omega) (by omega), ?_⟩
      by_cases c7 : (f_h0_cost a.toNatClampNeg) = 0
      · refine br1 c7 ?_
        have g8 : 0 ≤ (Int32.toInt (f_h0_cost a.toNatClampNeg)) ∧ (Int32.toInt (f_h0_cost a.toNatClampNeg)) ≤ 99 := CS.at_0 h_f_h0_cost (tnz (x := (Int32.toInt a)) rfl (by omega)) (by omega) (by omega)
        have d9 := eq_z (x := (Int32.toInt (f_h0_cost a.toNatClampNeg))) (y := 0) rfl rfl c7
        exact hq _ (by decide)
      · refine br0 c7 ?_
        have g10 : 0 ≤ (Int32.toInt (f_h0_cost a.toNatClampNeg)) ∧ (Int32.toInt (f_h0_cost a.toNatClampNeg)) ≤ 99 := CS.at_0 h_f_h0_cost (tnz (x := (Int32.toInt a)) rfl (by omega)) (by omega) (by omega)
        have d11 := ne_z (x := (Int32.toInt (f_h0_cost a.toNatClampNeg))) (y := 0) rfl rfl c7
        refine ⟨vpi (x := (Int32.toInt a)) rfl (by omega) (by omega), ?_⟩
        by_cases c12 : (f_h0_left a.toNatClampNeg) < 1000000
        · refine br1 c12 ?_
          have g13 : 0 ≤ (Int32.toInt (f_h0_left a.toNatClampNeg)) ∧ (Int32.toInt (f_h0_left a.toNatClampNeg)) ≤ 2000000 := LE.at_0 h_f_h0_left (tnz (x := (Int32.toInt a)) rfl (by omega)) (by omega) (by omega)
          have d14 := lt_z (x := (Int32.toInt (f_h0_left a.toNatClampNeg))) (y := 1000000) rfl rfl c12
          refine ⟨vpi (x := (Int32.toInt a)) rfl (by omega) (by omega), ?_⟩
          refine jn_s ?_
          by_cases c15 : (f_h0_endsWay a.toNatClampNeg) = 0
          · refine br1 c15 ?_
            have d16 := eq_z (x := (Int32.toInt (f_h0_endsWay a.toNatClampNeg))) (y := 0) rfl rfl c15
            refine ⟨vpi (x := (Int32.toInt a)) rfl (by omega) (by omega), ?_⟩
            refine ⟨vpi (x := (Int32.toInt a)) rfl (by omega) (by omega), ?_⟩
            have t17 : (Int32.toInt ((f_h0_cost a.toNatClampNeg) + (f_h0_left a.toNatClampNeg))) = (Int32.toInt (f_h0_cost a.toNatClampNeg)) + (Int32.toInt (f_h0_left a.toNatClampNeg)) := add_z rfl rfl (by omega) (by omega)
            exact hq _ ⟨by omega, by omega⟩
          · refine br0 c15 ?_
            have d18 := ne_z (x := (Int32.toInt (f_h0_endsWay a.toNatClampNeg))) (y := 0) rfl rfl c15
            by_cases c19 : a = b
            · refine br1 c19 ?_
              have d20 := eq_z (x := (Int32.toInt a)) (y := (Int32.toInt b)) rfl rfl c19
              refine ⟨vpi (x := (Int32.toInt a)) rfl (by omega) (by omega), ?_⟩
              refine ⟨vpi (x := (Int32.toInt a)) rfl (by omega) (by omega), ?_⟩
              have t21 : (Int32.toInt ((f_h0_cost a.toNatClampNeg) + (f_h0_left a.toNatClampNeg))) = (Int32.toInt (f_h0_cost a.toNatClampNeg)) + (Int32.toInt (f_h0_left a.toNatClampNeg)) := add_z rfl rfl (by omega) (by omega)
              exact hq _ ⟨by omega, by omega⟩
            · refine br0 c19 ?_
              have d22 := ne_z (x := (Int32.toInt a)) (y := (Int32.toInt b)) rfl rfl c19
              exact hq _ (by decide)
        · refine br0 c12 ?_
          have g23 : 0 ≤ (Int32.toInt (f_h0_left a.toNatClampNeg)) ∧ (Int32.toInt (f_h0_left a.toNatClampNeg)) ≤ 2000000 := LE.at_0 h_f_h0_left (tnz (x := (Int32.toInt a)) rfl (by omega)) (by omega) (by omega)
          have d24 := nlt_z (x := (Int32.toInt (f_h0_left a.toNatClampNeg))) (y := 1000000) rfl rfl c12
          exact hq _ (by decide)


set_option maxRecDepth 100000 in
theorem sl_X9_daysTo_12 (b : Int32) (f_h0_cost : Nat → Int32) (f_h0_endsWay : Nat → Int32) (x_2_0 : Int32) (h_f_h0_cost : CS f_h0_cost) (h_x_2_0 : 0 ≤ x_2_0.toInt ∧ x_2_0.toInt ≤ 4) (Qb : Int32 → (Nat → Int32) → Prop) (KX : ∀ (x_12_0 : Int32) (x_12_1 : Nat → Int32), (8 ≤ x_12_0.toInt ∧ x_12_0.toInt ≤ 40) ∧ (LE x_12_1) → Qb x_12_0 x_12_1) : ∀ (n : Nat) (x_12_0 : Int32) (x_12_1 : Nat → Int32), (0 ≤ x_12_0.toInt ∧ x_12_0.toInt ≤ 40) ∧ (LE x_12_1) → 41 - x_12_0.toInt < (n : Int) → wl_X9_daysTo_12 b f_h0_cost f_h0_endsWay x_2_0 Qb n x_12_0 x_12_1 := by
  intro n
  induction n with
  | zero =>
    intro x_12_0 x_12_1 hI hm
    exfalso; have hm : 41 - x_12_0.toInt < 0 := hm; omega
  | succ n ih =>
    intro x_12_0 x_12_1 hI hm
    have hm : 41 - x_12_0.toInt < (n : Int) + 1 := by simpa using hm
    have h_x_12_0 := hI.1
    have h_x_12_1 := hI.2
    unfold wl_X9_daysTo_12
    by_cases c4 : ((x_2_0 * 8) + 8) ≤ x_12_0
    · refine br1 c4 ?_
      have t5 : (Int32.toInt (x_2_0 * 8)) = (Int32.toInt x_2_0) * 8 := mul_z rfl rfl (by omega) (by omega)
      have t6 : (Int32.toInt ((x_2_0 * 8) + 8)) = (Int32.toInt (x_2_0 * 8)) + 8 := add_z rfl rfl (by omega) (by omega)
      have d7 := le_z (x := (Int32.toInt ((x_2_0 * 8) + 8))) (y := (Int32.toInt x_12_0)) rfl rfl c4
      exact KX _ _ ⟨⟨by omega, by omega⟩, h_x_12_1⟩
    · refine br0 c4 ?_
      have t8 : (Int32.toInt (x_2_0 * 8)) = (Int32.toInt x_2_0) * 8 := mul_z rfl rfl (by omega) (by omega)
      have t9 : (Int32.toInt ((x_2_0 * 8) + 8)) = (Int32.toInt (x_2_0 * 8)) + 8 := add_z rfl rfl (by omega) (by omega)
      have d10 := nle_z (x := (Int32.toInt ((x_2_0 * 8) + 8))) (y := (Int32.toInt x_12_0)) rfl rfl c4
      by_cases c11 : x_12_0 = b
      · refine br1 c11 ?_
        have d12 := eq_z (x := (Int32.toInt x_12_0)) (y := (Int32.toInt b)) rfl rfl c11
        refine ⟨vpi (x := (Int32.toInt x_12_0)) rfl (by omega) (by omega), ?_⟩
        have t13 : (Int32.toInt (x_12_0 + 1)) = (Int32.toInt x_12_0) + 1 := add_z rfl rfl (by omega) (by omega)
        have R14 : LE (upd x_12_1 x_12_0.toNatClampNeg 0) := LE.up_0 h_x_12_1 (tnz (x := (Int32.toInt x_12_0)) rfl (by omega)) (by omega) (by omega) (w := 0) rfl (by omega) (by omega)
        exact ih _ _ ⟨⟨by omega, by omega⟩, R14⟩ (by omega)
      · refine br0 c11 ?_
        have d15 := ne_z (x := (Int32.toInt x_12_0)) (y := (Int32.toInt b)) rfl rfl c11
        refine s_X9_daysBy (x_12_0 + 8) b (f_h0_cost) (x_12_1) (f_h0_endsWay) h_f_h0_cost h_x_12_1 (fun r16 H17 => ?_)
        have j18 := H17
        refine ⟨vpi (x := (Int32.toInt x_12_0)) rfl (by omega) (by omega), ?_⟩
        have t19 : (Int32.toInt (x_12_0 + 1)) = (Int32.toInt x_12_0) + 1 := add_z rfl rfl (by omega) (by omega)
        have R20 : LE (upd x_12_1 x_12_0.toNatClampNeg r16) := LE.up_0 h_x_12_1 (tnz (x := (Int32.toInt x_12_0)) rfl (by omega)) (by omega) (by omega) (w := (Int32.toInt r16)) rfl (by omega) (by omega)
        exact ih _ _ ⟨⟨by omega, by omega⟩, R20⟩ (by omega)
set_option maxRecDepth 100000 in
theorem sl_X9_daysTo_65 (b : Int32) (f_h0_cost : Nat → Int32) (f_h0_endsWay : Nat → Int32) (x_2_0 : Int32) (h_f_h0_cost : CS f_h0_cost) (h_x_2_0 : 0 ≤ x_2_0.toInt ∧ x_2_0.toInt ≤ 4) (Qb : Int32 → (Nat → Int32) → Prop) (KX : ∀ (x_65_0 : Int32) (x_65_1 : Nat → Int32), (8 ≤ x_65_0.toInt ∧ x_65_0.toInt ≤ 40) ∧ (LE x_65_1) → Qb x_65_0 x_65_1) : ∀ (n : Nat) (x_65_0 : Int32) (x_65_1 : Nat → Int32), (1 ≤ x_65_0.toInt ∧ x_65_0.toInt ≤ 40) ∧ (LE x_65_1) → 41 - x_65_0.toInt < (n : Int) → wl_X9_daysTo_65 b f_h0_cost f_h0_endsWay x_2_0 Qb n x_65_0 x_65_1 := by
  intro n
  induction n with
  | zero =>
    intro x_65_0 x_65_1 hI hm
    exfalso; have hm : 41 - x_65_0.toInt < 0 := hm; omega
  | succ n ih =>
    intro x_65_0 x_65_1 hI hm
    have hm : 41 - x_65_0.toInt < (n : Int) + 1 := by simpa using hm
    have h_x_65_0 := hI.1
    have h_x_65_1 := hI.2
    unfold wl_X9_daysTo_65
    by_cases c9 : ((x_2_0 * 8) + 8) ≤ x_65_0
    · refine br1 c9 ?_
      have t10 : (Int32.toInt (x_2_0 * 8)) = (Int32.toInt x_2_0) * 8 := mul_z rfl rfl (by omega) (by omega)
      have t11 : (Int32.toInt ((x_2_0 * 8) + 8)) = (Int32.toInt (x_2_0 * 8)) + 8 := add_z rfl rfl (by omega) (by omega)
      have d12 := le_z (x := (Int32.toInt ((x_2_0 * 8) + 8))) (y := (Int32.toInt x_65_0)) rfl rfl c9
      exact KX _ _ ⟨⟨by omega, by omega⟩, h_x_65_1⟩
    · refine br0 c9 ?_
      have t13 : (Int32.toInt (x_2_0 * 8)) = (Int32.toInt x_2_0) * 8 := mul_z rfl rfl (by omega) (by omega)
      have t14 : (Int32.toInt ((x_2_0 * 8) + 8)) = (Int32.toInt (x_2_0 * 8)) + 8 := add_z rfl rfl (by omega) (by omega)
      have d15 := nle_z (x := (Int32.toInt ((x_2_0 * 8) + 8))) (y := (Int32.toInt x_65_0)) rfl rfl c9
      refine ⟨vpi (x := (Int32.toInt x_65_0)) rfl (by omega) (by omega), ?_⟩
      refine s_X9_daysBy (x_65_0 - 1) b (f_h0_cost) (x_65_1) (f_h0_endsWay) h_f_h0_cost h_x_65_1 (fun r16 H17 => ?_)
      have j18 := H17
      refine ⟨vpi (x := (Int32.toInt x_65_0)) rfl (by omega) (by omega), ?_⟩
      have t19 : (Int32.toInt (x_65_0 + 1)) = (Int32.toInt x_65_0) + 1 := add_z rfl rfl (by omega) (by omega)
      have g20 : 0 ≤ (Int32.toInt (x_65_1 x_65_0.toNatClampNeg)) ∧ (Int32.toInt (x_65_1 x_65_0.toNatClampNeg)) ≤ 2000000 := LE.at_0 h_x_65_1 (tnz (x := (Int32.toInt x_65_0)) rfl (by omega)) (by omega) (by omega)
      have t21 := mn_z (a := (x_65_1 x_65_0.toNatClampNeg)) (b := r16)
      have R22 : LE (upd x_65_1 x_65_0.toNatClampNeg (if r16 < (x_65_1 x_65_0.toNatClampNeg) then r16 else (x_65_1 x_65_0.toNatClampNeg))) := LE.up_0 h_x_65_1 (tnz (x := (Int32.toInt x_65_0)) rfl (by omega)) (by omega) (by omega) (w := (Int32.toInt (if r16 < (x_65_1 x_65_0.toNatClampNeg) then r16 else (x_65_1 x_65_0.toNatClampNeg)))) rfl (by omega) (by omega)
      exact ih _ _ ⟨⟨by omega, by omega⟩, R22⟩ (by omega)
set_option maxRecDepth 100000 in
theorem sl_X9_daysTo_120 (b : Int32) (f_h0_cost : Nat → Int32) (f_h0_endsWay : Nat → Int32) (x_2_0 : Int32) (h_f_h0_cost : CS f_h0_cost) (h_x_2_0 : 0 ≤ x_2_0.toInt ∧ x_2_0.toInt ≤ 4) (Qb : Int32 → (Nat → Int32) → Prop) (KX : ∀ (x_120_0 : Int32) (x_120_1 : Nat → Int32), ((-1) ≤ x_120_0.toInt ∧ x_120_0.toInt ≤ 31) ∧ (LE x_120_1) → Qb x_120_0 x_120_1) : ∀ (n : Nat) (x_120_0 : Int32) (x_120_1 : Nat → Int32), ((-1) ≤ x_120_0.toInt ∧ x_120_0.toInt ≤ 38) ∧ (LE x_120_1) → x_120_0.toInt - (-2) < (n : Int) → wl_X9_daysTo_120 b f_h0_cost f_h0_endsWay x_2_0 Qb n x_120_0 x_120_1 := by
  intro n
  induction n with
  | zero =>
    intro x_120_0 x_120_1 hI hm
    exfalso; have hm : x_120_0.toInt - (-2) < 0 := hm; omega
  | succ n ih =>
    intro x_120_0 x_120_1 hI hm
    have hm : x_120_0.toInt - (-2) < (n : Int) + 1 := by simpa using hm
    have h_x_120_0 := hI.1
    have h_x_120_1 := hI.2
    unfold wl_X9_daysTo_120
    by_cases c14 : x_120_0 < (x_2_0 * 8)
    · refine br1 c14 ?_
      have t15 : (Int32.toInt (x_2_0 * 8)) = (Int32.toInt x_2_0) * 8 := mul_z rfl rfl (by omega) (by omega)
      have d16 := lt_z (x := (Int32.toInt x_120_0)) (y := (Int32.toInt (x_2_0 * 8))) rfl rfl c14
      exact KX _ _ ⟨⟨by omega, by omega⟩, h_x_120_1⟩
    · refine br0 c14 ?_
      have t17 : (Int32.toInt (x_2_0 * 8)) = (Int32.toInt x_2_0) * 8 := mul_z rfl rfl (by omega) (by omega)
      have d18 := nlt_z (x := (Int32.toInt x_120_0)) (y := (Int32.toInt (x_2_0 * 8))) rfl rfl c14
      refine ⟨vpi (x := (Int32.toInt x_120_0)) rfl (by omega) (by omega), ?_⟩
      refine s_X9_daysBy (x_120_0 + 1) b (f_h0_cost) (x_120_1) (f_h0_endsWay) h_f_h0_cost h_x_120_1 (fun r19 H20 => ?_)
      have j21 := H20
      refine ⟨vpi (x := (Int32.toInt x_120_0)) rfl (by omega) (by omega), ?_⟩
      have t22 : (Int32.toInt (x_120_0 + (-1))) = (Int32.toInt x_120_0) + (-1) := add_z rfl (by decide) (by omega) (by omega)
      have g23 : 0 ≤ (Int32.toInt (x_120_1 x_120_0.toNatClampNeg)) ∧ (Int32.toInt (x_120_1 x_120_0.toNatClampNeg)) ≤ 2000000 := LE.at_0 h_x_120_1 (tnz (x := (Int32.toInt x_120_0)) rfl (by omega)) (by omega) (by omega)
      have t24 := mn_z (a := (x_120_1 x_120_0.toNatClampNeg)) (b := r19)
      have R25 : LE (upd x_120_1 x_120_0.toNatClampNeg (if r19 < (x_120_1 x_120_0.toNatClampNeg) then r19 else (x_120_1 x_120_0.toNatClampNeg))) := LE.up_0 h_x_120_1 (tnz (x := (Int32.toInt x_120_0)) rfl (by omega)) (by omega) (by omega) (w := (Int32.toInt (if r19 < (x_120_1 x_120_0.toNatClampNeg) then r19 else (x_120_1 x_120_0.toNatClampNeg)))) rfl (by omega) (by omega)
      exact ih _ _ ⟨⟨by omega, by omega⟩, R25⟩ (by omega)
set_option maxRecDepth 100000 in
theorem sl_X9_daysTo_2 (b : Int32) (f_h0_cost : Nat → Int32) (f_h0_endsWay : Nat → Int32) (h_f_h0_cost : CS f_h0_cost) (Qb : Int32 → (Nat → Int32) → Prop) (KX : ∀ (x_2_0 : Int32) (x_2_1 : Nat → Int32), ((-1) ≤ x_2_0.toInt ∧ x_2_0.toInt ≤ (-1)) ∧ (LE x_2_1) → Qb x_2_0 x_2_1) : ∀ (n : Nat) (x_2_0 : Int32) (x_2_1 : Nat → Int32), ((-1) ≤ x_2_0.toInt ∧ x_2_0.toInt ≤ 4) ∧ (LE x_2_1) → x_2_0.toInt - (-2) < (n : Int) → wl_X9_daysTo_2 b f_h0_cost f_h0_endsWay Qb n x_2_0 x_2_1 := by
  intro n
  induction n with
  | zero =>
    intro x_2_0 x_2_1 hI hm
    exfalso; have hm : x_2_0.toInt - (-2) < 0 := hm; omega
  | succ n ih =>
    intro x_2_0 x_2_1 hI hm
    have hm : x_2_0.toInt - (-2) < (n : Int) + 1 := by simpa using hm
    have h_x_2_0 := hI.1
    have h_x_2_1 := hI.2
    unfold wl_X9_daysTo_2
    by_cases c1 : x_2_0 < 0
    · refine br1 c1 ?_
      have d2 := lt_z (x := (Int32.toInt x_2_0)) (y := 0) rfl rfl c1
      exact KX _ _ ⟨⟨by omega, by omega⟩, h_x_2_1⟩
    · refine br0 c1 ?_
      have d3 := nlt_z (x := (Int32.toInt x_2_0)) (y := 0) rfl rfl c1
      have t6 : (Int32.toInt (x_2_0 * 8)) = (Int32.toInt x_2_0) * 8 := mul_z rfl rfl (by omega) (by omega)
      refine sl_X9_daysTo_12 b (f_h0_cost) (f_h0_endsWay) x_2_0 h_f_h0_cost ⟨by omega, by omega⟩ _ (fun x4_0 x4_1 X5 => ?_) 1000000000000 (x_2_0 * 8) (x_2_1) ⟨⟨by omega, by omega⟩, h_x_2_1⟩ (by omega)
      have j7 := X5.1
      have j8 := X5.2
      have t11 : (Int32.toInt ((x_2_0 * 8) + 1)) = (Int32.toInt (x_2_0 * 8)) + 1 := add_z rfl rfl (by omega) (by omega)
      refine sl_X9_daysTo_65 b (f_h0_cost) (f_h0_endsWay) x_2_0 h_f_h0_cost ⟨by omega, by omega⟩ _ (fun x9_0 x9_1 X10 => ?_) 1000000000000 ((x_2_0 * 8) + 1) (x4_1) ⟨⟨by omega, by omega⟩, j8⟩ (by omega)
      have j12 := X10.1
      have j13 := X10.2
      have t16 : (Int32.toInt ((x_2_0 * 8) + 8)) = (Int32.toInt (x_2_0 * 8)) + 8 := add_z rfl rfl (by omega) (by omega)
      have t17 : (Int32.toInt (((x_2_0 * 8) + 8) - 2)) = (Int32.toInt ((x_2_0 * 8) + 8)) - 2 := sub_z rfl rfl (by omega) (by omega)
      refine sl_X9_daysTo_120 b (f_h0_cost) (f_h0_endsWay) x_2_0 h_f_h0_cost ⟨by omega, by omega⟩ _ (fun x14_0 x14_1 X15 => ?_) 1000000000000 (((x_2_0 * 8) + 8) - 2) (x9_1) ⟨⟨by omega, by omega⟩, j13⟩ (by omega)
      have j18 := X15.1
      have j19 := X15.2
      have t20 : (Int32.toInt (x_2_0 + (-1))) = (Int32.toInt x_2_0) + (-1) := add_z rfl (by decide) (by omega) (by omega)
      exact ih _ _ ⟨⟨by omega, by omega⟩, j19⟩ (by omega)
set_option maxRecDepth 100000 in
theorem s_X9_daysTo (a : Int32) (b : Int32) (f_h0_cost : Nat → Int32) (f_h0_left : Nat → Int32) (f_h0_endsWay : Nat → Int32) (h_a : 0 ≤ a.toInt ∧ a.toInt ≤ 39) (h_f_h0_cost : CS f_h0_cost) (h_f_h0_left : LE f_h0_left) {Q : Int32 → (Nat → Int32) → Prop} (hq : ∀ (r : Int32) (u : Nat → Int32), (0 ≤ r.toInt ∧ r.toInt ≤ 2000000) ∧ (LE u) → Q r u) : wp_X9_daysTo a b f_h0_cost f_h0_left f_h0_endsWay Q := by
  unfold wp_X9_daysTo
  have k3 : Int32.toInt 4 = 4 := rfl
  refine sl_X9_daysTo_2 b (f_h0_cost) (f_h0_endsWay) h_f_h0_cost _ (fun x1_0 x1_1 X2 => ?_) 1000000000000 4 (f_h0_left) ⟨(by decide), h_f_h0_left⟩ (by omega)
  have j4 := X2.1
  have j5 := X2.2
  refine ⟨vpi (x := (Int32.toInt a)) rfl (by omega) (by omega), ?_⟩
  have g6 : 0 ≤ (Int32.toInt (x1_1 a.toNatClampNeg)) ∧ (Int32.toInt (x1_1 a.toNatClampNeg)) ≤ 2000000 := LE.at_0 j5 (tnz (x := (Int32.toInt a)) rfl (by omega)) (by omega) (by omega)
  exact hq _ _ ⟨⟨by omega, by omega⟩, j5⟩


set_option maxRecDepth 100000 in
theorem sl_X9_walk_10 (b : Int32) (f_h0_cost : Nat → Int32) (f_h0_left : Nat → Int32) (f_h0_endsWay : Nat → Int32) (h_f_h0_cost : CS f_h0_cost) (h_f_h0_left : LE f_h0_left) (Qb : Int32 → Int32 → Int32 → (Nat → Int32) → Prop) (KX : ∀ (x_10_0 : Int32) (x_10_1 : Int32) (x_10_2 : Int32) (x_10_3 : Nat → Int32), (0 ≤ x_10_0.toInt ∧ x_10_0.toInt ≤ 40) ∧ (0 ≤ x_10_1.toInt ∧ x_10_1.toInt ≤ 39) ∧ (0 ≤ x_10_2.toInt ∧ x_10_2.toInt ≤ 40) ∧ (x_10_2.toInt = x_10_0.toInt) → Qb x_10_0 x_10_1 x_10_2 x_10_3) : ∀ (n : Nat) (x_10_0 : Int32) (x_10_1 : Int32) (x_10_2 : Int32) (x_10_3 : Nat → Int32), (0 ≤ x_10_0.toInt ∧ x_10_0.toInt ≤ 40) ∧ (0 ≤ x_10_1.toInt ∧ x_10_1.toInt ≤ 39) ∧ (0 ≤ x_10_2.toInt ∧ x_10_2.toInt ≤ 40) ∧ (x_10_2.toInt = x_10_0.toInt) → 41 - x_10_0.toInt < (n : Int) → wl_X9_walk_10 b f_h0_cost f_h0_left f_h0_endsWay Qb n x_10_0 x_10_1 x_10_2 x_10_3 := by
  intro n
  induction n with
  | zero =>
    intro x_10_0 x_10_1 x_10_2 x_10_3 hI hm
    exfalso; have hm : 41 - x_10_0.toInt < 0 := hm; omega
  | succ n ih =>
    intro x_10_0 x_10_1 x_10_2 x_10_3 hI hm
    have hm : 41 - x_10_0.toInt < (n : Int) + 1 := by simpa using hm
    have h_x_10_0 := hI.1
    have h_x_10_1 := hI.2.1
    have h_x_10_2 := hI.2.2.1
    have h_rel0 := hI.2.2.2
    unfold wl_X9_walk_10
    by_cases c1 : 40 ≤ x_10_0
    · refine br1 c1 ?_
      have d2 := le_z (x := 40) (y := (Int32.toInt x_10_0)) rfl rfl c1
      exact KX _ _ _ _ ⟨⟨by omega, by omega⟩, ⟨by omega, by omega⟩, ⟨by omega, by omega⟩, (by omega)⟩
    · refine br0 c1 ?_
      have d3 := nle_z (x := 40) (y := (Int32.toInt x_10_0)) rfl rfl c1
      by_cases c4 : x_10_1 = b
      · refine br1 c4 ?_
        have d5 := eq_z (x := (Int32.toInt x_10_1)) (y := (Int32.toInt b)) rfl rfl c4
        exact KX _ _ _ _ ⟨⟨by omega, by omega⟩, ⟨by omega, by omega⟩, ⟨by omega, by omega⟩, (by omega)⟩
      · refine br0 c4 ?_
        have d6 := ne_z (x := (Int32.toInt x_10_1)) (y := (Int32.toInt b)) rfl rfl c4
        refine jn_s ?_
        by_cases c7 : (x_10_1 - x_10_1 / 8 * 8) ≤ 0
        · refine br1 c7 ?_
          have t8 : (Int32.toInt (x_10_1 - x_10_1 / 8 * 8)) = (Int32.toInt x_10_1) % 8 := rem_z rfl rfl (by omega) (by omega)
          have d9 := le_z (x := (Int32.toInt (x_10_1 - x_10_1 / 8 * 8))) (y := 0) rfl rfl c7
          refine br0 (z_nle (x := 7) (y := (Int32.toInt (x_10_1 - x_10_1 / 8 * 8))) rfl rfl (by omega)) ?_
          refine s_X9_daysBy (x_10_1 + 1) b (f_h0_cost) (f_h0_left) (f_h0_endsWay) h_f_h0_cost h_f_h0_left (fun r10 H11 => ?_)
          have j12 := H11
          refine ⟨vpi (x := (Int32.toInt x_10_1)) rfl (by omega) (by omega), ?_⟩
          by_cases c13 : r10 = (f_h0_left x_10_1.toNatClampNeg)
          · refine br1 c13 ?_
            have g14 : 0 ≤ (Int32.toInt (f_h0_left x_10_1.toNatClampNeg)) ∧ (Int32.toInt (f_h0_left x_10_1.toNatClampNeg)) ≤ 2000000 := LE.at_0 h_f_h0_left (tnz (x := (Int32.toInt x_10_1)) rfl (by omega)) (by omega) (by omega)
            have d15 := eq_z (x := (Int32.toInt r10)) (y := (Int32.toInt (f_h0_left x_10_1.toNatClampNeg))) rfl rfl c13
            refine ⟨vpi (x := (Int32.toInt x_10_2)) rfl (by omega) (by omega), ?_⟩
            have t16 : (Int32.toInt (x_10_0 + 1)) = (Int32.toInt x_10_0) + 1 := add_z rfl rfl (by omega) (by omega)
            have t17 : (Int32.toInt (x_10_1 + 1)) = (Int32.toInt x_10_1) + 1 := add_z rfl rfl (by omega) (by omega)
            have t18 : (Int32.toInt (x_10_2 + 1)) = (Int32.toInt x_10_2) + 1 := add_z rfl rfl (by omega) (by omega)
            exact ih _ _ _ _ ⟨⟨by omega, by omega⟩, ⟨by omega, by omega⟩, ⟨by omega, by omega⟩, (by omega)⟩ (by omega)
          · refine br0 c13 ?_
            have g19 : 0 ≤ (Int32.toInt (f_h0_left x_10_1.toNatClampNeg)) ∧ (Int32.toInt (f_h0_left x_10_1.toNatClampNeg)) ≤ 2000000 := LE.at_0 h_f_h0_left (tnz (x := (Int32.toInt x_10_1)) rfl (by omega)) (by omega) (by omega)
            have d20 := ne_z (x := (Int32.toInt r10)) (y := (Int32.toInt (f_h0_left x_10_1.toNatClampNeg))) rfl rfl c13
            by_cases c21 : 40 ≤ (x_10_1 + 8)
            · refine br1 c21 ?_
              have t22 : (Int32.toInt (x_10_1 + 8)) = (Int32.toInt x_10_1) + 8 := add_z rfl rfl (by omega) (by omega)
              have d23 := le_z (x := 40) (y := (Int32.toInt (x_10_1 + 8))) rfl rfl c21
              refine ⟨vpi (x := (Int32.toInt x_10_2)) rfl (by omega) (by omega), ?_⟩
              have t24 : (Int32.toInt (x_10_0 + 1)) = (Int32.toInt x_10_0) + 1 := add_z rfl rfl (by omega) (by omega)
              have t25 : (Int32.toInt (x_10_2 + 1)) = (Int32.toInt x_10_2) + 1 := add_z rfl rfl (by omega) (by omega)
              exact ih _ _ _ _ ⟨⟨by omega, by omega⟩, ⟨by omega, by omega⟩, ⟨by omega, by omega⟩, (by omega)⟩ (by omega)
            · refine br0 c21 ?_
              have t26 : (Int32.toInt (x_10_1 + 8)) = (Int32.toInt x_10_1) + 8 := add_z rfl rfl (by omega) (by omega)
              have d27 := nle_z (x := 40) (y := (Int32.toInt (x_10_1 + 8))) rfl rfl c21
              refine ⟨vpi (x := (Int32.toInt x_10_2)) rfl (by omega) (by omega), ?_⟩
              have t28 : (Int32.toInt (x_10_0 + 1)) = (Int32.toInt x_10_0) + 1 := add_z rfl rfl (by omega) (by omega)
              have t29 : (Int32.toInt (x_10_2 + 1)) = (Int32.toInt x_10_2) + 1 := add_z rfl rfl (by omega) (by omega)
              exact ih _ _ _ _ ⟨⟨by omega, by omega⟩, ⟨by omega, by omega⟩, ⟨by omega, by omega⟩, (by omega)⟩ (by omega)
        · refine br0 c7 ?_
          have t30 : (Int32.toInt (x_10_1 - x_10_1 / 8 * 8)) = (Int32.toInt x_10_1) % 8 := rem_z rfl rfl (by omega) (by omega)
          have d31 := nle_z (x := (Int32.toInt (x_10_1 - x_10_1 / 8 * 8))) (y := 0) rfl rfl c7
          refine s_X9_daysBy (x_10_1 - 1) b (f_h0_cost) (f_h0_left) (f_h0_endsWay) h_f_h0_cost h_f_h0_left (fun r32 H33 => ?_)
          have j34 := H33
          refine ⟨vpi (x := (Int32.toInt x_10_1)) rfl (by omega) (by omega), ?_⟩
          by_cases c35 : r32 = (f_h0_left x_10_1.toNatClampNeg)
          · refine br1 c35 ?_
            have g36 : 0 ≤ (Int32.toInt (f_h0_left x_10_1.toNatClampNeg)) ∧ (Int32.toInt (f_h0_left x_10_1.toNatClampNeg)) ≤ 2000000 := LE.at_0 h_f_h0_left (tnz (x := (Int32.toInt x_10_1)) rfl (by omega)) (by omega) (by omega)
            have d37 := eq_z (x := (Int32.toInt r32)) (y := (Int32.toInt (f_h0_left x_10_1.toNatClampNeg))) rfl rfl c35
            refine ⟨vpi (x := (Int32.toInt x_10_2)) rfl (by omega) (by omega), ?_⟩
            have t38 : (Int32.toInt (x_10_0 + 1)) = (Int32.toInt x_10_0) + 1 := add_z rfl rfl (by omega) (by omega)
            have t39 : (Int32.toInt (x_10_1 - 1)) = (Int32.toInt x_10_1) - 1 := sub_z rfl rfl (by omega) (by omega)
            have t40 : (Int32.toInt (x_10_2 + 1)) = (Int32.toInt x_10_2) + 1 := add_z rfl rfl (by omega) (by omega)
            exact ih _ _ _ _ ⟨⟨by omega, by omega⟩, ⟨by omega, by omega⟩, ⟨by omega, by omega⟩, (by omega)⟩ (by omega)
          · refine br0 c35 ?_
            have g41 : 0 ≤ (Int32.toInt (f_h0_left x_10_1.toNatClampNeg)) ∧ (Int32.toInt (f_h0_left x_10_1.toNatClampNeg)) ≤ 2000000 := LE.at_0 h_f_h0_left (tnz (x := (Int32.toInt x_10_1)) rfl (by omega)) (by omega) (by omega)
            have d42 := ne_z (x := (Int32.toInt r32)) (y := (Int32.toInt (f_h0_left x_10_1.toNatClampNeg))) rfl rfl c35
            by_cases c43 : 7 ≤ (x_10_1 - x_10_1 / 8 * 8)
            · refine br1 c43 ?_
              have d44 := le_z (x := 7) (y := (Int32.toInt (x_10_1 - x_10_1 / 8 * 8))) rfl rfl c43
              by_cases c45 : 40 ≤ (x_10_1 + 8)
              · refine br1 c45 ?_
                have t46 : (Int32.toInt (x_10_1 + 8)) = (Int32.toInt x_10_1) + 8 := add_z rfl rfl (by omega) (by omega)
                have d47 := le_z (x := 40) (y := (Int32.toInt (x_10_1 + 8))) rfl rfl c45
                refine ⟨vpi (x := (Int32.toInt x_10_2)) rfl (by omega) (by omega), ?_⟩
                have t48 : (Int32.toInt (x_10_0 + 1)) = (Int32.toInt x_10_0) + 1 := add_z rfl rfl (by omega) (by omega)
                have t49 : (Int32.toInt (x_10_2 + 1)) = (Int32.toInt x_10_2) + 1 := add_z rfl rfl (by omega) (by omega)
                exact ih _ _ _ _ ⟨⟨by omega, by omega⟩, ⟨by omega, by omega⟩, ⟨by omega, by omega⟩, (by omega)⟩ (by omega)
              · refine br0 c45 ?_
                have t50 : (Int32.toInt (x_10_1 + 8)) = (Int32.toInt x_10_1) + 8 := add_z rfl rfl (by omega) (by omega)
                have d51 := nle_z (x := 40) (y := (Int32.toInt (x_10_1 + 8))) rfl rfl c45
                refine ⟨vpi (x := (Int32.toInt x_10_2)) rfl (by omega) (by omega), ?_⟩
                have t52 : (Int32.toInt (x_10_0 + 1)) = (Int32.toInt x_10_0) + 1 := add_z rfl rfl (by omega) (by omega)
                have t53 : (Int32.toInt (x_10_2 + 1)) = (Int32.toInt x_10_2) + 1 := add_z rfl rfl (by omega) (by omega)
                exact ih _ _ _ _ ⟨⟨by omega, by omega⟩, ⟨by omega, by omega⟩, ⟨by omega, by omega⟩, (by omega)⟩ (by omega)
            · refine br0 c43 ?_
              have d54 := nle_z (x := 7) (y := (Int32.toInt (x_10_1 - x_10_1 / 8 * 8))) rfl rfl c43
              refine s_X9_daysBy (x_10_1 + 1) b (f_h0_cost) (f_h0_left) (f_h0_endsWay) h_f_h0_cost h_f_h0_left (fun r55 H56 => ?_)
              have j57 := H56
              refine ⟨vpi (x := (Int32.toInt x_10_1)) rfl (by omega) (by omega), ?_⟩
              by_cases c58 : r55 = (f_h0_left x_10_1.toNatClampNeg)
              · refine br1 c58 ?_
                have d59 := eq_z (x := (Int32.toInt r55)) (y := (Int32.toInt (f_h0_left x_10_1.toNatClampNeg))) rfl rfl c58
                refine ⟨vpi (x := (Int32.toInt x_10_2)) rfl (by omega) (by omega), ?_⟩
                have t60 : (Int32.toInt (x_10_0 + 1)) = (Int32.toInt x_10_0) + 1 := add_z rfl rfl (by omega) (by omega)
                have t61 : (Int32.toInt (x_10_1 + 1)) = (Int32.toInt x_10_1) + 1 := add_z rfl rfl (by omega) (by omega)
                have t62 : (Int32.toInt (x_10_2 + 1)) = (Int32.toInt x_10_2) + 1 := add_z rfl rfl (by omega) (by omega)
                exact ih _ _ _ _ ⟨⟨by omega, by omega⟩, ⟨by omega, by omega⟩, ⟨by omega, by omega⟩, (by omega)⟩ (by omega)
              · refine br0 c58 ?_
                have d63 := ne_z (x := (Int32.toInt r55)) (y := (Int32.toInt (f_h0_left x_10_1.toNatClampNeg))) rfl rfl c58
                by_cases c64 : 40 ≤ (x_10_1 + 8)
                · refine br1 c64 ?_
                  have t65 : (Int32.toInt (x_10_1 + 8)) = (Int32.toInt x_10_1) + 8 := add_z rfl rfl (by omega) (by omega)
                  have d66 := le_z (x := 40) (y := (Int32.toInt (x_10_1 + 8))) rfl rfl c64
                  refine ⟨vpi (x := (Int32.toInt x_10_2)) rfl (by omega) (by omega), ?_⟩
                  have t67 : (Int32.toInt (x_10_0 + 1)) = (Int32.toInt x_10_0) + 1 := add_z rfl rfl (by omega) (by omega)
                  have t68 : (Int32.toInt (x_10_2 + 1)) = (Int32.toInt x_10_2) + 1 := add_z rfl rfl (by omega) (by omega)
                  exact ih _ _ _ _ ⟨⟨by omega, by omega⟩, ⟨by omega, by omega⟩, ⟨by omega, by omega⟩, (by omega)⟩ (by omega)
                · refine br0 c64 ?_
                  have t69 : (Int32.toInt (x_10_1 + 8)) = (Int32.toInt x_10_1) + 8 := add_z rfl rfl (by omega) (by omega)
                  have d70 := nle_z (x := 40) (y := (Int32.toInt (x_10_1 + 8))) rfl rfl c64
                  refine ⟨vpi (x := (Int32.toInt x_10_2)) rfl (by omega) (by omega), ?_⟩
                  have t71 : (Int32.toInt (x_10_0 + 1)) = (Int32.toInt x_10_0) + 1 := add_z rfl rfl (by omega) (by omega)
                  have t72 : (Int32.toInt (x_10_2 + 1)) = (Int32.toInt x_10_2) + 1 := add_z rfl rfl (by omega) (by omega)
                  exact ih _ _ _ _ ⟨⟨by omega, by omega⟩, ⟨by omega, by omega⟩, ⟨by omega, by omega⟩, (by omega)⟩ (by omega)
set_option maxRecDepth 100000 in
theorem s_X9_walk (a : Int32) (b : Int32) (f_h0_cost : Nat → Int32) (f_h0_left : Nat → Int32) (f_h0_endsWay : Nat → Int32) (f_h0_path : Nat → Int32) (h_a : 0 ≤ a.toInt ∧ a.toInt ≤ 39) (h_f_h0_cost : CS f_h0_cost) (h_f_h0_left : LE f_h0_left) {Q : (Int32 × (Nat → Int32)) → Prop} (hq : ∀ (u_0 : Int32) (u_1 : Nat → Int32), (0 ≤ u_0.toInt ∧ u_0.toInt ≤ 40) → Q (u_0, u_1)) : wp_X9_walk a b f_h0_cost f_h0_left f_h0_endsWay f_h0_path Q := by
  unfold wp_X9_walk
  have k3 : Int32.toInt 0 = 0 := rfl
  refine sl_X9_walk_10 b (f_h0_cost) (f_h0_left) (f_h0_endsWay) h_f_h0_cost h_f_h0_left _ (fun x1_0 x1_1 x1_2 x1_3 X2 => ?_) 1000000000000 0 a 0 (f_h0_path) ⟨(by decide), ⟨by omega, by omega⟩, (by decide), (by omega)⟩ (by omega)
  have j4 := X2.1
  have j5 := X2.2.1
  have j6 := X2.2.2.1
  have j7 := X2.2.2.2
  exact hq _ _ ⟨by omega, by omega⟩


set_option maxRecDepth 100000 in
theorem s_X11_findWay_N (a : Int32) (b : Int32) (h0_site_world : Nat) (h0_site_world_lawCount : Int32) (h0_site_world_force : Int32) (h0_site_world_crew_count : Int32) (f_h0_site_world_crew_cell : Nat → Int32) (h0_site_world_rock_dug : Int64) (f_h0_site_world_rock_kind : Nat → Int32) (f_h0_site_world_laws : Nat → Option Nat) (h0_asker_world : Value) (h0_asker_law : Value) (h0_asker_cell : Int32) (h0_asker_shaft : Int32) (h0_asker_kind : Int32) (h0_ways_days : Int32) (f_h0_site_world_rock_hard : Nat → Int32) (f_h0_ways_cost : Nat → Int32) (f_h0_ways_endsWay : Nat → Int32) (f_h0_ways_left : Nat → Int32) (h_h0_site_world_lawCount : 0 ≤ h0_site_world_lawCount.toInt ∧ h0_site_world_lawCount.toInt ≤ 6) (h_h0_site_world_force : (-1) ≤ h0_site_world_force.toInt ∧ h0_site_world_force.toInt ≤ (-1)) (h_h0_site_world_crew_count : 0 ≤ h0_site_world_crew_count.toInt ∧ h0_site_world_crew_count.toInt ≤ 6) (h_f_h0_site_world_crew_cell : CE f_h0_site_world_crew_cell) (h_f_h0_site_world_rock_kind : KI f_h0_site_world_rock_kind) (h_h0_asker_cell : 0 ≤ h0_asker_cell.toInt ∧ h0_asker_cell.toInt ≤ 39) (h_h0_ways_days : 0 ≤ h0_ways_days.toInt ∧ h0_ways_days.toInt ≤ 2000000) (h_f_h0_site_world_rock_hard : HA f_h0_site_world_rock_hard) (h_f_h0_ways_cost : CS f_h0_ways_cost) (h_f_h0_ways_left : LE f_h0_ways_left) {Q : Int32 → (Value × Value × Int32 × Int32 × Int32 × Int32 × (Nat → Int32) × (Nat → Int32) × (Nat → Int32)) → Prop} (hq : ∀ (r : Int32) (u_0 : Value) (u_1 : Value) (u_2 : Int32) (u_3 : Int32) (u_4 : Int32) (u_5 : Int32) (u_6 : Nat → Int32) (u_7 : Nat → Int32) (u_8 : Nat → Int32), (0 ≤ r.toInt ∧ r.toInt ≤ 1) ∧ (0 ≤ u_2.toInt ∧ u_2.toInt ≤ 39) ∧ (0 ≤ u_5.toInt ∧ u_5.toInt ≤ 2000000) ∧ (CS u_6) ∧ (LE u_8) ∧ (r.toInt = 0 ∨ (0 ≤ a.toInt ∧ a.toInt < h0_site_world_crew_count.toInt ∧ 0 ≤ b.toInt ∧ b.toInt ≤ 39)) → Q r (u_0, u_1, u_2, u_3, u_4, u_5, u_6, u_7, u_8)) : wp_X11_findWay_N a b h0_site_world h0_site_world_lawCount h0_site_world_force h0_site_world_crew_count f_h0_site_world_crew_cell h0_site_world_rock_dug f_h0_site_world_rock_kind f_h0_site_world_laws h0_asker_world h0_asker_law h0_asker_cell h0_asker_shaft h0_asker_kind h0_ways_days f_h0_site_world_rock_hard f_h0_ways_cost f_h0_ways_endsWay f_h0_ways_left Q := by
  unfold wp_X11_findWay_N
  refine o_X11_isWithin _ _ _ ?_
  by_cases c1 : a < 0
  · refine br1 c1 ?_
    have d2 := lt_z (x := (Int32.toInt a)) (y := 0) rfl rfl c1
    refine br1 (by decide) ?_
    have k3 : Int32.toInt 0 = 0 := rfl
    exact hq _ _ _ _ _ _ _ _ _ _ ⟨(by decide), ⟨by omega, by omega⟩, ⟨by omega, by omega⟩, h_f_h0_ways_cost, h_f_h0_ways_left, (by omega)⟩
  · refine br0 c1 ?_
    have d4 := nlt_z (x := (Int32.toInt a)) (y := 0) rfl rfl c1
    by_cases c5 : h0_site_world_crew_count ≤ a
    · refine br1 c5 ?_
      have d6 := le_z (x := (Int32.toInt h0_site_world_crew_count)) (y := (Int32.toInt a)) rfl rfl c5
      refine br1 (by decide) ?_
      have k7 : Int32.toInt 0 = 0 := rfl
      exact hq _ _ _ _ _ _ _ _ _ _ ⟨(by decide), ⟨by omega, by omega⟩, ⟨by omega, by omega⟩, h_f_h0_ways_cost, h_f_h0_ways_left, (by omega)⟩
    · refine br0 c5 ?_
      have d8 := nle_z (x := (Int32.toInt h0_site_world_crew_count)) (y := (Int32.toInt a)) rfl rfl c5
      refine br0 (by decide) ?_
      refine o_X11_isWithin _ _ _ ?_
      by_cases c9 : b < 0
      · refine br1 c9 ?_
        have d10 := lt_z (x := (Int32.toInt b)) (y := 0) rfl rfl c9
        refine br1 (by decide) ?_
        have k11 : Int32.toInt 0 = 0 := rfl
        exact hq _ _ _ _ _ _ _ _ _ _ ⟨(by decide), ⟨by omega, by omega⟩, ⟨by omega, by omega⟩, h_f_h0_ways_cost, h_f_h0_ways_left, (by omega)⟩
      · refine br0 c9 ?_
        have d12 := nlt_z (x := (Int32.toInt b)) (y := 0) rfl rfl c9
        by_cases c13 : 40 ≤ b
        · refine br1 c13 ?_
          have d14 := le_z (x := 40) (y := (Int32.toInt b)) rfl rfl c13
          refine br1 (by decide) ?_
          have k15 : Int32.toInt 0 = 0 := rfl
          exact hq _ _ _ _ _ _ _ _ _ _ ⟨(by decide), ⟨by omega, by omega⟩, ⟨by omega, by omega⟩, h_f_h0_ways_cost, h_f_h0_ways_left, (by omega)⟩
        · refine br0 c13 ?_
          have d16 := nle_z (x := 40) (y := (Int32.toInt b)) rfl rfl c13
          refine br0 (by decide) ?_
          refine s_X10_mayBeDugOn a (f_h0_site_world_crew_cell) (f_h0_site_world_rock_kind) ⟨by omega, by omega⟩ h_f_h0_site_world_crew_cell h_f_h0_site_world_rock_kind (fun r17 H18 => ?_)
          have j19 := H18
          by_cases c20 : r17 = 0
          · refine br1 c20 ?_
            have d21 := eq_z (x := (Int32.toInt r17)) (y := 0) rfl rfl c20
            have k22 : Int32.toInt 0 = 0 := rfl
            exact hq _ _ _ _ _ _ _ _ _ _ ⟨(by decide), ⟨by omega, by omega⟩, ⟨by omega, by omega⟩, h_f_h0_ways_cost, h_f_h0_ways_left, (by omega)⟩
          · refine br0 c20 ?_
            have d23 := ne_z (x := (Int32.toInt r17)) (y := 0) rfl rfl c20
            refine o_X10_lawInForce_N _ _ _ _ ?_
            refine o_X10_lawOf_N _ _ _ _ ?_
            refine br1 (z_lt (x := (Int32.toInt h0_site_world_force)) (y := 0) rfl rfl (by omega)) ?_
            refine o_X0_turnTo_N _ ?_
            refine s_X9_weigh_N a h0_site_world_rock_dug h0_asker_cell h0_asker_shaft h0_asker_kind (f_h0_site_world_rock_kind) (f_h0_site_world_rock_hard) (f_h0_ways_cost) (f_h0_ways_endsWay) ⟨by omega, by omega⟩ h_f_h0_site_world_rock_kind h_f_h0_site_world_rock_hard h_f_h0_ways_cost (fun u24_0 u24_1 u24_2 u24_3 u24_4 H25 => ?_)
            have j26 := H25.1
            have j27 := H25.2
            refine un5_i ?_
            refine ⟨vpi (x := (Int32.toInt a)) rfl (by omega) (by omega), ?_⟩
            have g28 : 0 ≤ (Int32.toInt (f_h0_site_world_crew_cell a.toNatClampNeg)) ∧ (Int32.toInt (f_h0_site_world_crew_cell a.toNatClampNeg)) ≤ 39 := CE.at_0 h_f_h0_site_world_crew_cell (tnz (x := (Int32.toInt a)) rfl (by omega)) (by omega) (by omega)
            refine s_X9_daysTo (f_h0_site_world_crew_cell a.toNatClampNeg) b (u24_3) (f_h0_ways_left) (u24_4) ⟨by omega, by omega⟩ j27 h_f_h0_ways_left (fun r29 u30 H31 => ?_)
            have j32 := H31.1
            have j33 := H31.2
            by_cases c34 : 1000000 ≤ r29
            · refine br1 c34 ?_
              have d35 := le_z (x := 1000000) (y := (Int32.toInt r29)) rfl rfl c34
              have k36 : Int32.toInt 0 = 0 := rfl
              exact hq _ _ _ _ _ _ _ _ _ _ ⟨(by decide), ⟨by omega, by omega⟩, ⟨by omega, by omega⟩, j27, j33, (by omega)⟩
            · refine br0 c34 ?_
              have d37 := nle_z (x := 1000000) (y := (Int32.toInt r29)) rfl rfl c34
              have k38 : Int32.toInt 1 = 1 := rfl
              exact hq _ _ _ _ _ _ _ _ _ _ ⟨(by decide), ⟨by omega, by omega⟩, ⟨by omega, by omega⟩, j27, j33, (by omega)⟩


set_option maxRecDepth 100000 in
theorem s_X11_down_N (a : Int32) (b : Int32) (d : Int32) (h0_site_world : Nat) (h0_site_world_lawCount : Int32) (h0_site_world_force : Int32) (h0_site_world_crew_count : Int32) (f_h0_site_world_crew_cell : Nat → Int32) (h0_site_world_rock_dug : Int64) (f_h0_site_world_rock_kind : Nat → Int32) (f_h0_site_world_laws : Nat → Option Nat) (h0_asker_world : Value) (h0_asker_law : Value) (h0_asker_cell : Int32) (h0_asker_shaft : Int32) (h0_asker_kind : Int32) (h0_ways_steps : Int32) (h0_ways_days : Int32) (f_h0_site_world_rock_hard : Nat → Int32) (f_h0_ways_cost : Nat → Int32) (f_h0_ways_endsWay : Nat → Int32) (f_h0_ways_left : Nat → Int32) (f_h0_ways_path : Nat → Int32) (h_h0_site_world_lawCount : 0 ≤ h0_site_world_lawCount.toInt ∧ h0_site_world_lawCount.toInt ≤ 6) (h_h0_site_world_force : (-1) ≤ h0_site_world_force.toInt ∧ h0_site_world_force.toInt ≤ (-1)) (h_h0_site_world_crew_count : 0 ≤ h0_site_world_crew_count.toInt ∧ h0_site_world_crew_count.toInt ≤ 6) (h_f_h0_site_world_crew_cell : CE f_h0_site_world_crew_cell) (h_f_h0_site_world_rock_kind : KI f_h0_site_world_rock_kind) (h_h0_asker_cell : 0 ≤ h0_asker_cell.toInt ∧ h0_asker_cell.toInt ≤ 39) (h_h0_ways_steps : 0 ≤ h0_ways_steps.toInt ∧ h0_ways_steps.toInt ≤ 40) (h_h0_ways_days : 0 ≤ h0_ways_days.toInt ∧ h0_ways_days.toInt ≤ 2000000) (h_f_h0_site_world_rock_hard : HA f_h0_site_world_rock_hard) (h_f_h0_ways_cost : CS f_h0_ways_cost) (h_f_h0_ways_left : LE f_h0_ways_left) {Q : Int32 → (Value × Value × Int32 × Int32 × Int32 × Int32 × Int32 × (Nat → Int32) × (Nat → Int32) × (Nat → Int32) × (Nat → Int32)) → Prop} (hq : ∀ (r : Int32) (u_0 : Value) (u_1 : Value) (u_2 : Int32) (u_3 : Int32) (u_4 : Int32) (u_5 : Int32) (u_6 : Int32) (u_7 : Nat → Int32) (u_8 : Nat → Int32) (u_9 : Nat → Int32) (u_10 : Nat → Int32), (0 ≤ u_2.toInt ∧ u_2.toInt ≤ 39) ∧ (0 ≤ u_5.toInt ∧ u_5.toInt ≤ 40) ∧ (0 ≤ u_6.toInt ∧ u_6.toInt ≤ 2000000) ∧ (CS u_7) ∧ (LE u_9) → Q r (u_0, u_1, u_2, u_3, u_4, u_5, u_6, u_7, u_8, u_9, u_10)) : wp_X11_down_N a b d h0_site_world h0_site_world_lawCount h0_site_world_force h0_site_world_crew_count f_h0_site_world_crew_cell h0_site_world_rock_dug f_h0_site_world_rock_kind f_h0_site_world_laws h0_asker_world h0_asker_law h0_asker_cell h0_asker_shaft h0_asker_kind h0_ways_steps h0_ways_days f_h0_site_world_rock_hard f_h0_ways_cost f_h0_ways_endsWay f_h0_ways_left f_h0_ways_path Q := by
  unfold wp_X11_down_N
  by_cases c1 : d < 0
  · refine br1 c1 ?_
    have d2 := lt_z (x := (Int32.toInt d)) (y := 0) rfl rfl c1
    exact hq _ _ _ _ _ _ _ _ _ _ _ _ ⟨⟨by omega, by omega⟩, ⟨by omega, by omega⟩, ⟨by omega, by omega⟩, h_f_h0_ways_cost, h_f_h0_ways_left⟩
  · refine br0 c1 ?_
    have d3 := nlt_z (x := (Int32.toInt d)) (y := 0) rfl rfl c1
    refine s_X11_findWay_N a b h0_site_world h0_site_world_lawCount h0_site_world_force h0_site_world_crew_count (f_h0_site_world_crew_cell) h0_site_world_rock_dug (f_h0_site_world_rock_kind) (f_h0_site_world_laws) h0_asker_world h0_asker_law h0_asker_cell h0_asker_shaft h0_asker_kind h0_ways_days (f_h0_site_world_rock_hard) (f_h0_ways_cost) (f_h0_ways_endsWay) (f_h0_ways_left) ⟨by omega, by omega⟩ ⟨by omega, by omega⟩ ⟨by omega, by omega⟩ h_f_h0_site_world_crew_cell h_f_h0_site_world_rock_kind ⟨by omega, by omega⟩ ⟨by omega, by omega⟩ h_f_h0_site_world_rock_hard h_f_h0_ways_cost h_f_h0_ways_left (fun r4 u5_0 u5_1 u5_2 u5_3 u5_4 u5_5 u5_6 u5_7 u5_8 H6 => ?_)
    have j7 := H6.1
    have j8 := H6.2.1
    have j9 := H6.2.2.1
    have j10 := H6.2.2.2.1
    have j11 := H6.2.2.2.2.1
    have j12 := H6.2.2.2.2.2
    refine un9_i ?_
    by_cases c13 : r4 = 0
    · refine br1 c13 ?_
      have d14 := eq_z (x := (Int32.toInt r4)) (y := 0) rfl rfl c13
      exact hq _ _ _ _ _ _ _ _ _ _ _ _ ⟨⟨by omega, by omega⟩, ⟨by omega, by omega⟩, ⟨by omega, by omega⟩, j10, j11⟩
    · refine br0 c13 ?_
      have d15 := ne_z (x := (Int32.toInt r4)) (y := 0) rfl rfl c13
      by_cases c16 : d = 0
      · refine br1 c16 ?_
        have d17 := eq_z (x := (Int32.toInt d)) (y := 0) rfl rfl c16
        exact hq _ _ _ _ _ _ _ _ _ _ _ _ ⟨⟨by omega, by omega⟩, ⟨by omega, by omega⟩, ⟨by omega, by omega⟩, j10, j11⟩
      · refine br0 c16 ?_
        have d18 := ne_z (x := (Int32.toInt d)) (y := 0) rfl rfl c16
        refine ⟨vpi (x := (Int32.toInt a)) rfl (by omega) (by omega), ?_⟩
        have g19 : 0 ≤ (Int32.toInt (f_h0_site_world_crew_cell a.toNatClampNeg)) ∧ (Int32.toInt (f_h0_site_world_crew_cell a.toNatClampNeg)) ≤ 39 := CE.at_0 h_f_h0_site_world_crew_cell (tnz (x := (Int32.toInt a)) rfl (by omega)) (by omega) (by omega)
        refine s_X9_walk (f_h0_site_world_crew_cell a.toNatClampNeg) b (u5_6) (u5_8) (u5_7) (f_h0_ways_path) ⟨by omega, by omega⟩ j10 j11 (fun u20_0 u20_1 H21 => ?_)
        have j22 := H21
        refine un2_i ?_
        by_cases c23 : d = 1
        · refine br1 c23 ?_
          have d24 := eq_z (x := (Int32.toInt d)) (y := 1) rfl rfl c23
          exact hq _ _ _ _ _ _ _ _ _ _ _ _ ⟨⟨by omega, by omega⟩, ⟨by omega, by omega⟩, ⟨by omega, by omega⟩, j10, j11⟩
        · refine br0 c23 ?_
          have d25 := ne_z (x := (Int32.toInt d)) (y := 1) rfl rfl c23
          by_cases c26 : u20_0 ≤ (d - 2)
          · refine br1 c26 ?_
            have t27 := i32_hi d
            have t28 : (Int32.toInt (d - 2)) = (Int32.toInt d) - 2 := sub_z rfl rfl (by omega) (by omega)
            have d29 := le_z (x := (Int32.toInt u20_0)) (y := (Int32.toInt (d - 2))) rfl rfl c26
            exact hq _ _ _ _ _ _ _ _ _ _ _ _ ⟨⟨by omega, by omega⟩, ⟨by omega, by omega⟩, ⟨by omega, by omega⟩, j10, j11⟩
          · refine br0 c26 ?_
            have t30 := i32_hi d
            have t31 : (Int32.toInt (d - 2)) = (Int32.toInt d) - 2 := sub_z rfl rfl (by omega) (by omega)
            have d32 := nle_z (x := (Int32.toInt u20_0)) (y := (Int32.toInt (d - 2))) rfl rfl c26
            refine ⟨vpi (x := (Int32.toInt (d - 2))) rfl (by omega) (by omega), ?_⟩
            exact hq _ _ _ _ _ _ _ _ _ _ _ _ ⟨⟨by omega, by omega⟩, ⟨by omega, by omega⟩, ⟨by omega, by omega⟩, j10, j11⟩


set_option maxRecDepth 100000 in
theorem sl_X9_chanceIn_55 (b : Int32) (h_b : 0 ≤ b.toInt ∧ b.toInt ≤ 9999) (Qb : Int32 → (Nat → Int64) → Prop) (KX : ∀ (x_55_0 : Int32) (x_55_1 : Nat → Int64), ((-1) ≤ x_55_0.toInt ∧ x_55_0.toInt ≤ (-1)) → Qb x_55_0 x_55_1) : ∀ (n : Nat) (x_55_0 : Int32) (x_55_1 : Nat → Int64), ((-1) ≤ x_55_0.toInt ∧ x_55_0.toInt ≤ 199) → x_55_0.toInt - (-2) < (n : Int) → wl_X9_chanceIn_55 b Qb n x_55_0 x_55_1 := by
  intro n
  induction n with
  | zero =>
    intro x_55_0 x_55_1 hI hm
    exfalso; have hm : x_55_0.toInt - (-2) < 0 := hm; omega
  | succ n ih =>
    intro x_55_0 x_55_1 hI hm
    have hm : x_55_0.toInt - (-2) < (n : Int) + 1 := by simpa using hm
    have h_x_55_0 := hI
    unfold wl_X9_chanceIn_55
    by_cases c11 : x_55_0 < 0
    · refine br1 c11 ?_
      have d12 := lt_z (x := (Int32.toInt x_55_0)) (y := 0) rfl rfl c11
      exact KX _ _ ⟨by omega, by omega⟩
    · refine br0 c11 ?_
      have d13 := nlt_z (x := (Int32.toInt x_55_0)) (y := 0) rfl rfl c11
      have t14 : (Int32.toInt (x_55_0 + 1)) = (Int32.toInt x_55_0) + 1 := add_z rfl rfl (by omega) (by omega)
      refine ⟨vpi (x := (Int32.toInt (x_55_0 + 1))) rfl (by omega) (by omega), ?_⟩
      refine ⟨vpi (x := (Int32.toInt x_55_0)) rfl (by omega) (by omega), ?_⟩
      refine ⟨vpi (x := (Int32.toInt (x_55_0 + 1))) rfl (by omega) (by omega), ?_⟩
      refine ⟨vpi (x := (Int32.toInt x_55_0)) rfl (by omega) (by omega), ?_⟩
      refine ⟨vpi (x := (Int32.toInt x_55_0)) rfl (by omega) (by omega), ?_⟩
      have t15 : (Int32.toInt (x_55_0 + (-1))) = (Int32.toInt x_55_0) + (-1) := add_z rfl (by decide) (by omega) (by omega)
      exact ih _ _ ⟨by omega, by omega⟩ (by omega)
set_option maxRecDepth 100000 in
theorem sl_X9_chanceIn_38 (a : Int32) (b : Int32) (h0_days : Int32) (h_a : 0 ≤ a.toInt ∧ a.toInt ≤ 200) (h_b : 0 ≤ b.toInt ∧ b.toInt ≤ 9999) (h_h0_days : 0 ≤ h0_days.toInt ∧ h0_days.toInt ≤ 2000000) (Qb : Int32 → (Nat → Int64) → Prop) (KX : ∀ (x_38_0 : Int32) (x_38_1 : Nat → Int64), (0 ≤ x_38_0.toInt ∧ x_38_0.toInt ≤ 200) → Qb x_38_0 x_38_1) : ∀ (n : Nat) (x_38_0 : Int32) (x_38_1 : Nat → Int64), (0 ≤ x_38_0.toInt ∧ x_38_0.toInt ≤ 200) → 201 - x_38_0.toInt < (n : Int) → wl_X9_chanceIn_38 a b h0_days Qb n x_38_0 x_38_1 := by
  intro n
  induction n with
  | zero =>
    intro x_38_0 x_38_1 hI hm
    exfalso; have hm : 201 - x_38_0.toInt < 0 := hm; omega
  | succ n ih =>
    intro x_38_0 x_38_1 hI hm
    have hm : 201 - x_38_0.toInt < (n : Int) + 1 := by simpa using hm
    have h_x_38_0 := hI
    unfold wl_X9_chanceIn_38
    by_cases c8 : a ≤ x_38_0
    · refine br1 c8 ?_
      have d9 := le_z (x := (Int32.toInt a)) (y := (Int32.toInt x_38_0)) rfl rfl c8
      exact KX _ _ ⟨by omega, by omega⟩
    · refine br0 c8 ?_
      have d10 := nle_z (x := (Int32.toInt a)) (y := (Int32.toInt x_38_0)) rfl rfl c8
      have t13 : (Int32.toInt (h0_days - 1)) = (Int32.toInt h0_days) - 1 := sub_z rfl rfl (by omega) (by omega)
      have t14 := mn_z (a := (h0_days - 1)) (b := x_38_0)
      refine sl_X9_chanceIn_55 b ⟨by omega, by omega⟩ _ (fun x11_0 x11_1 X12 => ?_) 1000000000000 (if x_38_0 < (h0_days - 1) then x_38_0 else (h0_days - 1)) (x_38_1) ⟨by omega, by omega⟩ (by omega)
      have j15 := X12
      have t16 : (Int32.toInt (x_38_0 + 1)) = (Int32.toInt x_38_0) + 1 := add_z rfl rfl (by omega) (by omega)
      exact ih _ _ ⟨by omega, by omega⟩ (by omega)
set_option maxRecDepth 100000 in
theorem s_X9_chanceIn (a : Int32) (b : Int32) (h0_days : Int32) (f_h0_chance : Nat → Int64) (h_b : 0 ≤ b.toInt ∧ b.toInt ≤ 9999) (h_h0_days : 0 ≤ h0_days.toInt ∧ h0_days.toInt ≤ 2000000) {Q : Int64 → (Nat → Int64) → Prop} (hq : ∀ (r : Int64) (u : Nat → Int64), True → Q r u) : wp_X9_chanceIn a b h0_days f_h0_chance Q := by
  unfold wp_X9_chanceIn
  by_cases c1 : a < h0_days
  · refine br1 c1 ?_
    have d2 := lt_z (x := (Int32.toInt a)) (y := (Int32.toInt h0_days)) rfl rfl c1
    exact hq _ _ trivial
  · refine br0 c1 ?_
    have d3 := nlt_z (x := (Int32.toInt a)) (y := (Int32.toInt h0_days)) rfl rfl c1
    by_cases c4 : a < 201
    · refine br1 c4 ?_
      have d5 := lt_z (x := (Int32.toInt a)) (y := 201) rfl rfl c4
      refine s_J7_fill_d0a16 0 201 (f_h0_chance) (by omega) (fun u6 H7 => ?_)
      refine ⟨vpi (x := 0) rfl (by omega) (by omega), ?_⟩
      have k10 : Int32.toInt 0 = 0 := rfl
      refine sl_X9_chanceIn_38 a b h0_days ⟨by omega, by omega⟩ ⟨by omega, by omega⟩ ⟨by omega, by omega⟩ _ (fun x8_0 x8_1 X9 => ?_) 1000000000000 0 ((vp_updL u6 0 1000000000000)) (by decide) (by omega)
      have j11 := X9
      refine ⟨vpi (x := (Int32.toInt h0_days)) rfl (by omega) (by omega), ?_⟩
      exact hq _ _ trivial
    · refine br0 c4 ?_
      have d12 := nlt_z (x := (Int32.toInt a)) (y := 201) rfl rfl c4
      exact hq _ _ trivial


set_option maxRecDepth 100000 in
theorem s_X11_time_N (a : Int32) (b : Int32) (d : Int32) (h0_site_world : Nat) (h0_site_world_lawCount : Int32) (h0_site_world_force : Int32) (h0_site_world_crew_count : Int32) (f_h0_site_world_crew_cell : Nat → Int32) (h0_site_world_rock_dug : Int64) (f_h0_site_world_rock_kind : Nat → Int32) (f_h0_site_world_laws : Nat → Option Nat) (h0_asker_world : Value) (h0_asker_law : Value) (h0_asker_cell : Int32) (h0_asker_shaft : Int32) (h0_asker_kind : Int32) (h0_ways_days : Int32) (f_h0_site_world_rock_hard : Nat → Int32) (f_h0_ways_cost : Nat → Int32) (f_h0_ways_endsWay : Nat → Int32) (f_h0_ways_left : Nat → Int32) (f_h0_site_world_term : Nat → Int32) (f_h0_ways_chance : Nat → Int64) (h_h0_site_world_lawCount : 0 ≤ h0_site_world_lawCount.toInt ∧ h0_site_world_lawCount.toInt ≤ 6) (h_h0_site_world_force : (-1) ≤ h0_site_world_force.toInt ∧ h0_site_world_force.toInt ≤ (-1)) (h_h0_site_world_crew_count : 0 ≤ h0_site_world_crew_count.toInt ∧ h0_site_world_crew_count.toInt ≤ 6) (h_f_h0_site_world_crew_cell : CE f_h0_site_world_crew_cell) (h_f_h0_site_world_rock_kind : KI f_h0_site_world_rock_kind) (h_h0_asker_cell : 0 ≤ h0_asker_cell.toInt ∧ h0_asker_cell.toInt ≤ 39) (h_h0_ways_days : 0 ≤ h0_ways_days.toInt ∧ h0_ways_days.toInt ≤ 2000000) (h_f_h0_site_world_rock_hard : HA f_h0_site_world_rock_hard) (h_f_h0_ways_cost : CS f_h0_ways_cost) (h_f_h0_ways_left : LE f_h0_ways_left) (h_f_h0_site_world_term : TE f_h0_site_world_term) {Q : Int64 → (Value × Value × Int32 × Int32 × Int32 × Int32 × (Nat → Int32) × (Nat → Int32) × (Nat → Int32) × (Nat → Int64)) → Prop} (hq : ∀ (r : Int64) (u_0 : Value) (u_1 : Value) (u_2 : Int32) (u_3 : Int32) (u_4 : Int32) (u_5 : Int32) (u_6 : Nat → Int32) (u_7 : Nat → Int32) (u_8 : Nat → Int32) (u_9 : Nat → Int64), (0 ≤ u_2.toInt ∧ u_2.toInt ≤ 39) ∧ (0 ≤ u_5.toInt ∧ u_5.toInt ≤ 2000000) ∧ (CS u_6) ∧ (LE u_8) → Q r (u_0, u_1, u_2, u_3, u_4, u_5, u_6, u_7, u_8, u_9)) : wp_X11_time_N a b d h0_site_world h0_site_world_lawCount h0_site_world_force h0_site_world_crew_count f_h0_site_world_crew_cell h0_site_world_rock_dug f_h0_site_world_rock_kind f_h0_site_world_laws h0_asker_world h0_asker_law h0_asker_cell h0_asker_shaft h0_asker_kind h0_ways_days f_h0_site_world_rock_hard f_h0_ways_cost f_h0_ways_endsWay f_h0_ways_left f_h0_site_world_term f_h0_ways_chance Q := by
  unfold wp_X11_time_N
  refine o_X11_isWithin _ _ _ ?_
  by_cases c1 : d < 0
  · refine br1 c1 ?_
    have d2 := lt_z (x := (Int32.toInt d)) (y := 0) rfl rfl c1
    refine br1 (by decide) ?_
    exact hq _ _ _ _ _ _ _ _ _ _ _ ⟨⟨by omega, by omega⟩, ⟨by omega, by omega⟩, h_f_h0_ways_cost, h_f_h0_ways_left⟩
  · refine br0 c1 ?_
    have d3 := nlt_z (x := (Int32.toInt d)) (y := 0) rfl rfl c1
    by_cases c4 : 201 ≤ d
    · refine br1 c4 ?_
      have d5 := le_z (x := 201) (y := (Int32.toInt d)) rfl rfl c4
      refine br1 (by decide) ?_
      exact hq _ _ _ _ _ _ _ _ _ _ _ ⟨⟨by omega, by omega⟩, ⟨by omega, by omega⟩, h_f_h0_ways_cost, h_f_h0_ways_left⟩
    · refine br0 c4 ?_
      have d6 := nle_z (x := 201) (y := (Int32.toInt d)) rfl rfl c4
      refine br0 (by decide) ?_
      refine s_X11_findWay_N a b h0_site_world h0_site_world_lawCount h0_site_world_force h0_site_world_crew_count (f_h0_site_world_crew_cell) h0_site_world_rock_dug (f_h0_site_world_rock_kind) (f_h0_site_world_laws) h0_asker_world h0_asker_law h0_asker_cell h0_asker_shaft h0_asker_kind h0_ways_days (f_h0_site_world_rock_hard) (f_h0_ways_cost) (f_h0_ways_endsWay) (f_h0_ways_left) ⟨by omega, by omega⟩ ⟨by omega, by omega⟩ ⟨by omega, by omega⟩ h_f_h0_site_world_crew_cell h_f_h0_site_world_rock_kind ⟨by omega, by omega⟩ ⟨by omega, by omega⟩ h_f_h0_site_world_rock_hard h_f_h0_ways_cost h_f_h0_ways_left (fun r7 u8_0 u8_1 u8_2 u8_3 u8_4 u8_5 u8_6 u8_7 u8_8 H9 => ?_)
      have j10 := H9.1
      have j11 := H9.2.1
      have j12 := H9.2.2.1
      have j13 := H9.2.2.2.1
      have j14 := H9.2.2.2.2.1
      have j15 := H9.2.2.2.2.2
      refine un9_i ?_
      by_cases c16 : r7 = 0
      · refine br1 c16 ?_
        have d17 := eq_z (x := (Int32.toInt r7)) (y := 0) rfl rfl c16
        exact hq _ _ _ _ _ _ _ _ _ _ _ ⟨⟨by omega, by omega⟩, ⟨by omega, by omega⟩, j13, j14⟩
      · refine br0 c16 ?_
        have d18 := ne_z (x := (Int32.toInt r7)) (y := 0) rfl rfl c16
        have g19 : 0 ≤ (Int32.toInt (f_h0_site_world_term (1 : Int32).toNatClampNeg)) ∧ (Int32.toInt (f_h0_site_world_term (1 : Int32).toNatClampNeg)) ≤ 9999 := TE.at_0 h_f_h0_site_world_term (rfl : ((1 : Nat) : Int) = 1) (by omega) (by omega)
        refine s_X9_chanceIn d (f_h0_site_world_term (1 : Int32).toNatClampNeg) u8_5 (f_h0_ways_chance) ⟨by omega, by omega⟩ ⟨by omega, by omega⟩ (fun r20 u21 H22 => ?_)
        exact hq _ _ _ _ _ _ _ _ _ _ _ ⟨⟨by omega, by omega⟩, ⟨by omega, by omega⟩, j13, j14⟩


set_option maxRecDepth 100000 in
theorem s_X9_daysWith (a : Int32) (b : Int32) (d : Int32) (f_h0_price : Nat → Int32) (f_h0_fewest : Nat → Int32) (h_a : 0 ≤ a.toInt ∧ a.toInt ≤ 5) (h_b : 0 ≤ b.toInt ∧ b.toInt ≤ 63) (h_d : 0 ≤ d.toInt ∧ d.toInt ≤ 5) (h_f_h0_price : PC f_h0_price) (h_f_h0_fewest : FW f_h0_fewest) {Q : Int32 → Prop} (hq : ∀ (r : Int32), (0 ≤ r.toInt ∧ r.toInt ≤ 1000000) → Q r) : wp_X9_daysWith a b d f_h0_price f_h0_fewest Q := by
  unfold wp_X9_daysWith
  have t1 : (Int32.toInt (a * 6)) = (Int32.toInt a) * 6 := mul_z rfl rfl (by omega) (by omega)
  have t2 : (Int32.toInt ((a * 6) + d)) = (Int32.toInt (a * 6)) + (Int32.toInt d) := add_z rfl rfl (by omega) (by omega)
  refine ⟨vpi (x := (Int32.toInt ((a * 6) + d))) rfl (by omega) (by omega), ?_⟩
  have t3 : (Int32.toInt (a + 1)) = (Int32.toInt a) + 1 := add_z rfl rfl (by omega) (by omega)
  have t4 : (Int32.toInt ((a + 1) * 64)) = (Int32.toInt (a + 1)) * 64 := mul_z rfl rfl (by omega) (by omega)
  have t5 : 1 ≤ (Int32.toInt ((1 : Int32) <<< (d &&& 31))) ∧ (Int32.toInt ((1 : Int32) <<< (d &&& 31))) ≤ 32 := shl1_c (by omega) (by omega)
  have t6 : 0 ≤ (Int32.toInt (b ^^^ ((1 : Int32) <<< (d &&& 31)))) ∧ (Int32.toInt (b ^^^ ((1 : Int32) <<< (d &&& 31)))) ≤ 63 := xor_z (a := b) (b := ((1 : Int32) <<< (d &&& 31))) (by omega) (by omega) (by omega) (by omega)
  have t7 : (Int32.toInt (((a + 1) * 64) + (b ^^^ ((1 : Int32) <<< (d &&& 31))))) = (Int32.toInt ((a + 1) * 64)) + (Int32.toInt (b ^^^ ((1 : Int32) <<< (d &&& 31)))) := add_z rfl rfl (by omega) (by omega)
  refine ⟨vpi (x := (Int32.toInt (((a + 1) * 64) + (b ^^^ ((1 : Int32) <<< (d &&& 31)))))) rfl (by omega) (by omega), ?_⟩
  have g8 : 0 ≤ (Int32.toInt (f_h0_price ((a * 6) + d).toNatClampNeg)) ∧ (Int32.toInt (f_h0_price ((a * 6) + d).toNatClampNeg)) ≤ 2000000 := PC.at_0 h_f_h0_price (tnz (x := (Int32.toInt ((a * 6) + d))) rfl (by omega)) (by omega) (by omega)
  have g9 : 0 ≤ (Int32.toInt (f_h0_fewest (((a + 1) * 64) + (b ^^^ ((1 : Int32) <<< (d &&& 31)))).toNatClampNeg)) ∧ (Int32.toInt (f_h0_fewest (((a + 1) * 64) + (b ^^^ ((1 : Int32) <<< (d &&& 31)))).toNatClampNeg)) ≤ 1000000 := FW.at_0 h_f_h0_fewest (tnz (x := (Int32.toInt (((a + 1) * 64) + (b ^^^ ((1 : Int32) <<< (d &&& 31)))))) rfl (by omega)) (by omega) (by omega)
  have t10 : (Int32.toInt ((f_h0_price ((a * 6) + d).toNatClampNeg) + (f_h0_fewest (((a + 1) * 64) + (b ^^^ ((1 : Int32) <<< (d &&& 31)))).toNatClampNeg))) = (Int32.toInt (f_h0_price ((a * 6) + d).toNatClampNeg)) + (Int32.toInt (f_h0_fewest (((a + 1) * 64) + (b ^^^ ((1 : Int32) <<< (d &&& 31)))).toNatClampNeg)) := add_z rfl rfl (by omega) (by omega)
  have t11 := mn_z (a := 1000000) (b := ((f_h0_price ((a * 6) + d).toNatClampNeg) + (f_h0_fewest (((a + 1) * 64) + (b ^^^ ((1 : Int32) <<< (d &&& 31)))).toNatClampNeg)))
  have k12 : Int32.toInt 1000000 = 1000000 := rfl
  exact hq _ ⟨by omega, by omega⟩


set_option maxRecDepth 100000 in
theorem sl_X9_fewestFrom_18 (a : Int32) (b : Int32) (d : Int32) (f_h0_fewest : Nat → Int32) (f_h0_price : Nat → Int32) (h_a : 0 ≤ a.toInt ∧ a.toInt ≤ 5) (h_b : 0 ≤ b.toInt ∧ b.toInt ≤ 63) (h_d : 0 ≤ d.toInt ∧ d.toInt ≤ 6) (h_f_h0_fewest : FW f_h0_fewest) (h_f_h0_price : PC f_h0_price) (Qb : Int32 → Int32 → Prop) (KX : ∀ (x_18_0 : Int32) (x_18_1 : Int32), (0 ≤ x_18_0.toInt ∧ x_18_0.toInt ≤ 6) ∧ (0 ≤ x_18_1.toInt ∧ x_18_1.toInt ≤ 1000000) → Qb x_18_0 x_18_1) : ∀ (n : Nat) (x_18_0 : Int32) (x_18_1 : Int32), (0 ≤ x_18_0.toInt ∧ x_18_0.toInt ≤ 6) ∧ (0 ≤ x_18_1.toInt ∧ x_18_1.toInt ≤ 1000000) → 7 - x_18_0.toInt < (n : Int) → wl_X9_fewestFrom_18 a b d f_h0_fewest f_h0_price Qb n x_18_0 x_18_1 := by
  intro n
  induction n with
  | zero =>
    intro x_18_0 x_18_1 hI hm
    exfalso; have hm : 7 - x_18_0.toInt < 0 := hm; omega
  | succ n ih =>
    intro x_18_0 x_18_1 hI hm
    have hm : 7 - x_18_0.toInt < (n : Int) + 1 := by simpa using hm
    have h_x_18_0 := hI.1
    have h_x_18_1 := hI.2
    unfold wl_X9_fewestFrom_18
    by_cases c4 : d ≤ x_18_0
    · refine br1 c4 ?_
      have d5 := le_z (x := (Int32.toInt d)) (y := (Int32.toInt x_18_0)) rfl rfl c4
      exact KX _ _ ⟨⟨by omega, by omega⟩, ⟨by omega, by omega⟩⟩
    · refine br0 c4 ?_
      have d6 := nle_z (x := (Int32.toInt d)) (y := (Int32.toInt x_18_0)) rfl rfl c4
      by_cases c7 : ((b >>> (x_18_0 &&& 31)) &&& 1) = 0
      · refine br1 c7 ?_
        have t8 : 0 ≤ (Int32.toInt ((b >>> (x_18_0 &&& 31)) &&& 1)) ∧ (Int32.toInt ((b >>> (x_18_0 &&& 31)) &&& 1)) ≤ 1 := and_z (by decide)
        have d9 := eq_z (x := (Int32.toInt ((b >>> (x_18_0 &&& 31)) &&& 1))) (y := 0) rfl rfl c7
        have t10 : (Int32.toInt (x_18_0 + 1)) = (Int32.toInt x_18_0) + 1 := add_z rfl rfl (by omega) (by omega)
        exact ih _ _ ⟨⟨by omega, by omega⟩, ⟨by omega, by omega⟩⟩ (by omega)
      · refine br0 c7 ?_
        have t11 : 0 ≤ (Int32.toInt ((b >>> (x_18_0 &&& 31)) &&& 1)) ∧ (Int32.toInt ((b >>> (x_18_0 &&& 31)) &&& 1)) ≤ 1 := and_z (by decide)
        have d12 := ne_z (x := (Int32.toInt ((b >>> (x_18_0 &&& 31)) &&& 1))) (y := 0) rfl rfl c7
        refine s_X9_daysWith a b x_18_0 (f_h0_price) (f_h0_fewest) ⟨by omega, by omega⟩ ⟨by omega, by omega⟩ ⟨by omega, by omega⟩ h_f_h0_price h_f_h0_fewest (fun r13 H14 => ?_)
        have j15 := H14
        have t16 : (Int32.toInt (x_18_0 + 1)) = (Int32.toInt x_18_0) + 1 := add_z rfl rfl (by omega) (by omega)
        have t17 := mn_z (a := x_18_1) (b := r13)
        exact ih _ _ ⟨⟨by omega, by omega⟩, ⟨by omega, by omega⟩⟩ (by omega)
set_option maxRecDepth 100000 in
theorem s_X9_fewestFrom (a : Int32) (b : Int32) (d : Int32) (f_h0_fewest : Nat → Int32) (f_h0_price : Nat → Int32) (h_a : 0 ≤ a.toInt ∧ a.toInt ≤ 5) (h_b : 0 ≤ b.toInt ∧ b.toInt ≤ 63) (h_d : 0 ≤ d.toInt ∧ d.toInt ≤ 6) (h_f_h0_fewest : FW f_h0_fewest) (h_f_h0_price : PC f_h0_price) {Q : Int32 → Prop} (hq : ∀ (r : Int32), (0 ≤ r.toInt ∧ r.toInt ≤ 1000000) → Q r) : wp_X9_fewestFrom a b d f_h0_fewest f_h0_price Q := by
  unfold wp_X9_fewestFrom
  have t1 : (Int32.toInt (a + 1)) = (Int32.toInt a) + 1 := add_z rfl rfl (by omega) (by omega)
  have t2 : (Int32.toInt ((a + 1) * 64)) = (Int32.toInt (a + 1)) * 64 := mul_z rfl rfl (by omega) (by omega)
  have t3 : (Int32.toInt (((a + 1) * 64) + b)) = (Int32.toInt ((a + 1) * 64)) + (Int32.toInt b) := add_z rfl rfl (by omega) (by omega)
  refine ⟨vpi (x := (Int32.toInt (((a + 1) * 64) + b))) rfl (by omega) (by omega), ?_⟩
  have g6 : 0 ≤ (Int32.toInt (f_h0_fewest (((a + 1) * 64) + b).toNatClampNeg)) ∧ (Int32.toInt (f_h0_fewest (((a + 1) * 64) + b).toNatClampNeg)) ≤ 1000000 := FW.at_0 h_f_h0_fewest (tnz (x := (Int32.toInt (((a + 1) * 64) + b))) rfl (by omega)) (by omega) (by omega)
  have k7 : Int32.toInt 0 = 0 := rfl
  refine sl_X9_fewestFrom_18 a b d (f_h0_fewest) (f_h0_price) ⟨by omega, by omega⟩ ⟨by omega, by omega⟩ ⟨by omega, by omega⟩ h_f_h0_fewest h_f_h0_price _ (fun x4_0 x4_1 X5 => ?_) 1000000000000 0 (f_h0_fewest (((a + 1) * 64) + b).toNatClampNeg) ⟨(by decide), ⟨by omega, by omega⟩⟩ (by omega)
  have j8 := X5.1
  have j9 := X5.2
  exact hq _ ⟨by omega, by omega⟩


set_option maxRecDepth 100000 in
theorem sl_X9_fillRow_21 (b : Int32) (f_h0_price : Nat → Int32) (f_h0_fewest : Nat → Int32) (x_9_0 : Int32) (x_9_1 : Int32) (h_b : 0 ≤ b.toInt ∧ b.toInt ≤ 6) (h_f_h0_price : PC f_h0_price) (h_f_h0_fewest : FW f_h0_fewest) (h_x_9_0 : 0 ≤ x_9_0.toInt ∧ x_9_0.toInt ≤ 5) (h_x_9_1 : 0 ≤ x_9_1.toInt ∧ x_9_1.toInt ≤ 63) (Qb : Int32 → Int32 → Prop) (KX : ∀ (x_21_0 : Int32) (x_21_1 : Int32), (0 ≤ x_21_0.toInt ∧ x_21_0.toInt ≤ 6) ∧ ((-1) ≤ x_21_1.toInt ∧ x_21_1.toInt ≤ 5) → Qb x_21_0 x_21_1) : ∀ (n : Nat) (x_21_0 : Int32) (x_21_1 : Int32), (0 ≤ x_21_0.toInt ∧ x_21_0.toInt ≤ 6) ∧ ((-1) ≤ x_21_1.toInt ∧ x_21_1.toInt ≤ 5) → 7 - x_21_0.toInt < (n : Int) → wl_X9_fillRow_21 b f_h0_price f_h0_fewest x_9_0 x_9_1 Qb n x_21_0 x_21_1 := by
  intro n
  induction n with
  | zero =>
    intro x_21_0 x_21_1 hI hm
    exfalso; have hm : 7 - x_21_0.toInt < 0 := hm; omega
  | succ n ih =>
    intro x_21_0 x_21_1 hI hm
    have hm : 7 - x_21_0.toInt < (n : Int) + 1 := by simpa using hm
    have h_x_21_0 := hI.1
    have h_x_21_1 := hI.2
    unfold wl_X9_fillRow_21
    by_cases c4 : b ≤ x_21_0
    · refine br1 c4 ?_
      have d5 := le_z (x := (Int32.toInt b)) (y := (Int32.toInt x_21_0)) rfl rfl c4
      exact KX _ _ ⟨⟨by omega, by omega⟩, ⟨by omega, by omega⟩⟩
    · refine br0 c4 ?_
      have d6 := nle_z (x := (Int32.toInt b)) (y := (Int32.toInt x_21_0)) rfl rfl c4
      by_cases c7 : x_21_1 = (-1)
      · refine br1 c7 ?_
        have d8 := eq_z (x := (Int32.toInt x_21_1)) (y := (-1)) rfl (by decide) c7
        by_cases c9 : ((x_9_1 >>> (x_21_0 &&& 31)) &&& 1) = 0
        · refine br1 c9 ?_
          have t10 : 0 ≤ (Int32.toInt ((x_9_1 >>> (x_21_0 &&& 31)) &&& 1)) ∧ (Int32.toInt ((x_9_1 >>> (x_21_0 &&& 31)) &&& 1)) ≤ 1 := and_z (by decide)
          have d11 := eq_z (x := (Int32.toInt ((x_9_1 >>> (x_21_0 &&& 31)) &&& 1))) (y := 0) rfl rfl c9
          have t12 : (Int32.toInt (x_21_0 + 1)) = (Int32.toInt x_21_0) + 1 := add_z rfl rfl (by omega) (by omega)
          exact ih _ _ ⟨⟨by omega, by omega⟩, ⟨by omega, by omega⟩⟩ (by omega)
        · refine br0 c9 ?_
          have t13 : 0 ≤ (Int32.toInt ((x_9_1 >>> (x_21_0 &&& 31)) &&& 1)) ∧ (Int32.toInt ((x_9_1 >>> (x_21_0 &&& 31)) &&& 1)) ≤ 1 := and_z (by decide)
          have d14 := ne_z (x := (Int32.toInt ((x_9_1 >>> (x_21_0 &&& 31)) &&& 1))) (y := 0) rfl rfl c9
          refine s_X9_daysWith x_9_0 x_9_1 x_21_0 (f_h0_price) (f_h0_fewest) ⟨by omega, by omega⟩ ⟨by omega, by omega⟩ ⟨by omega, by omega⟩ h_f_h0_price h_f_h0_fewest (fun r15 H16 => ?_)
          have j17 := H16
          have t18 : (Int32.toInt (x_9_0 * 64)) = (Int32.toInt x_9_0) * 64 := mul_z rfl rfl (by omega) (by omega)
          have t19 : (Int32.toInt ((x_9_0 * 64) + x_9_1)) = (Int32.toInt (x_9_0 * 64)) + (Int32.toInt x_9_1) := add_z rfl rfl (by omega) (by omega)
          refine ⟨vpi (x := (Int32.toInt ((x_9_0 * 64) + x_9_1))) rfl (by omega) (by omega), ?_⟩
          by_cases c20 : r15 = (f_h0_fewest ((x_9_0 * 64) + x_9_1).toNatClampNeg)
          · refine br1 c20 ?_
            have g21 : 0 ≤ (Int32.toInt (f_h0_fewest ((x_9_0 * 64) + x_9_1).toNatClampNeg)) ∧ (Int32.toInt (f_h0_fewest ((x_9_0 * 64) + x_9_1).toNatClampNeg)) ≤ 1000000 := FW.at_0 h_f_h0_fewest (tnz (x := (Int32.toInt ((x_9_0 * 64) + x_9_1))) rfl (by omega)) (by omega) (by omega)
            have d22 := eq_z (x := (Int32.toInt r15)) (y := (Int32.toInt (f_h0_fewest ((x_9_0 * 64) + x_9_1).toNatClampNeg))) rfl rfl c20
            have t23 : (Int32.toInt (x_21_0 + 1)) = (Int32.toInt x_21_0) + 1 := add_z rfl rfl (by omega) (by omega)
            exact ih _ _ ⟨⟨by omega, by omega⟩, ⟨by omega, by omega⟩⟩ (by omega)
          · refine br0 c20 ?_
            have g24 : 0 ≤ (Int32.toInt (f_h0_fewest ((x_9_0 * 64) + x_9_1).toNatClampNeg)) ∧ (Int32.toInt (f_h0_fewest ((x_9_0 * 64) + x_9_1).toNatClampNeg)) ≤ 1000000 := FW.at_0 h_f_h0_fewest (tnz (x := (Int32.toInt ((x_9_0 * 64) + x_9_1))) rfl (by omega)) (by omega) (by omega)
            have d25 := ne_z (x := (Int32.toInt r15)) (y := (Int32.toInt (f_h0_fewest ((x_9_0 * 64) + x_9_1).toNatClampNeg))) rfl rfl c20
            have t26 : (Int32.toInt (x_21_0 + 1)) = (Int32.toInt x_21_0) + 1 := add_z rfl rfl (by omega) (by omega)
            exact ih _ _ ⟨⟨by omega, by omega⟩, ⟨by omega, by omega⟩⟩ (by omega)
      · refine br0 c7 ?_
        have d27 := ne_z (x := (Int32.toInt x_21_1)) (y := (-1)) rfl (by decide) c7
        exact KX _ _ ⟨⟨by omega, by omega⟩, ⟨by omega, by omega⟩⟩
set_option maxRecDepth 100000 in
theorem sl_X9_fillRow_9 (a : Int32) (b : Int32) (f_h0_price : Nat → Int32) (f_h0_fewest : Nat → Int32) (f_h0_told : Nat → Int32) (h_a : 0 ≤ a.toInt ∧ a.toInt ≤ 6) (h_b : 0 ≤ b.toInt ∧ b.toInt ≤ 6) (h_f_h0_price : PC f_h0_price) (h_f_h0_fewest : FW f_h0_fewest) (h_f_h0_told : TO f_h0_told) (Qb : Int32 → Int32 → (Nat → Int32) → Prop) (KX : ∀ (x_9_0 : Int32) (x_9_1 : Int32) (x_9_2 : Nat → Int32), (0 ≤ x_9_0.toInt ∧ x_9_0.toInt ≤ 6) ∧ (0 ≤ x_9_1.toInt ∧ x_9_1.toInt ≤ 63) → Qb x_9_0 x_9_1 x_9_2) : ∀ (n : Nat) (x_9_0 : Int32) (x_9_1 : Int32) (x_9_2 : Nat → Int32), (0 ≤ x_9_0.toInt ∧ x_9_0.toInt ≤ 6) ∧ (0 ≤ x_9_1.toInt ∧ x_9_1.toInt ≤ 63) → 7 - x_9_0.toInt < (n : Int) → wl_X9_fillRow_9 a b f_h0_price f_h0_fewest f_h0_told Qb n x_9_0 x_9_1 x_9_2 := by
  intro n
  induction n with
  | zero =>
    intro x_9_0 x_9_1 x_9_2 hI hm
    exfalso; have hm : 7 - x_9_0.toInt < 0 := hm; omega
  | succ n ih =>
    intro x_9_0 x_9_1 x_9_2 hI hm
    have hm : 7 - x_9_0.toInt < (n : Int) + 1 := by simpa using hm
    have h_x_9_0 := hI.1
    have h_x_9_1 := hI.2
    unfold wl_X9_fillRow_9
    by_cases c1 : a ≤ x_9_0
    · refine br1 c1 ?_
      have d2 := le_z (x := (Int32.toInt a)) (y := (Int32.toInt x_9_0)) rfl rfl c1
      exact KX _ _ _ ⟨⟨by omega, by omega⟩, ⟨by omega, by omega⟩⟩
    · refine br0 c1 ?_
      have d3 := nle_z (x := (Int32.toInt a)) (y := (Int32.toInt x_9_0)) rfl rfl c1
      have k6 : Int32.toInt 0 = 0 := rfl
      have k7 : Int32.toInt (-1) = (-1) := (by decide)
      refine sl_X9_fillRow_21 b (f_h0_price) (f_h0_fewest) x_9_0 x_9_1 ⟨by omega, by omega⟩ h_f_h0_price h_f_h0_fewest ⟨by omega, by omega⟩ ⟨by omega, by omega⟩ _ (fun x4_0 x4_1 X5 => ?_) 1000000000000 0 (-1) ⟨(by decide), (by decide)⟩ (by omega)
      have j8 := X5.1
      have j9 := X5.2
      refine jn_s ?_
      by_cases c10 : x4_1 = (-1)
      · refine br1 c10 ?_
        have d11 := eq_z (x := (Int32.toInt x4_1)) (y := (-1)) rfl (by decide) c10
        refine ⟨vpi (x := (Int32.toInt x_9_0)) rfl (by omega) (by omega), ?_⟩
        refine br1 (z_eq (x := (Int32.toInt x4_1)) (y := (-1)) rfl (by decide) (by omega)) ?_
        have t12 : (Int32.toInt (x_9_0 + 1)) = (Int32.toInt x_9_0) + 1 := add_z rfl rfl (by omega) (by omega)
        exact ih _ _ _ ⟨⟨by omega, by omega⟩, ⟨by omega, by omega⟩⟩ (by omega)
      · refine br0 c10 ?_
        have d13 := ne_z (x := (Int32.toInt x4_1)) (y := (-1)) rfl (by decide) c10
        refine ⟨vpi (x := (Int32.toInt x4_1)) rfl (by omega) (by omega), ?_⟩
        refine ⟨vpi (x := (Int32.toInt x_9_0)) rfl (by omega) (by omega), ?_⟩
        refine br0 (z_ne (x := (Int32.toInt x4_1)) (y := (-1)) rfl (by decide) (by omega)) ?_
        have t14 : (Int32.toInt (x_9_0 + 1)) = (Int32.toInt x_9_0) + 1 := add_z rfl rfl (by omega) (by omega)
        have t15 : 1 ≤ (Int32.toInt ((1 : Int32) <<< (x4_1 &&& 31))) ∧ (Int32.toInt ((1 : Int32) <<< (x4_1 &&& 31))) ≤ 32 := shl1_c (by omega) (by omega)
        have t16 : 0 ≤ (Int32.toInt (x_9_1 ^^^ ((1 : Int32) <<< (x4_1 &&& 31)))) ∧ (Int32.toInt (x_9_1 ^^^ ((1 : Int32) <<< (x4_1 &&& 31)))) ≤ 63 := xor_z (a := x_9_1) (b := ((1 : Int32) <<< (x4_1 &&& 31))) (by omega) (by omega) (by omega) (by omega)
        exact ih _ _ _ ⟨⟨by omega, by omega⟩, ⟨by omega, by omega⟩⟩ (by omega)
set_option maxRecDepth 100000 in
theorem s_X9_fillRow (a : Int32) (b : Int32) (f_h0_price : Nat → Int32) (f_h0_fewest : Nat → Int32) (f_h0_told : Nat → Int32) (f_h0_cellOfShaft : Nat → Int32) (h_a : 0 ≤ a.toInt ∧ a.toInt ≤ 6) (h_b : 0 ≤ b.toInt ∧ b.toInt ≤ 6) (h_f_h0_price : PC f_h0_price) (h_f_h0_fewest : FW f_h0_fewest) (h_f_h0_told : TO f_h0_told) {Q : (Nat → Int32) → Prop} (hq : ∀ (u : Nat → Int32), True → Q u) : wp_X9_fillRow a b f_h0_price f_h0_fewest f_h0_told f_h0_cellOfShaft Q := by
  unfold wp_X9_fillRow
  have t3 : 1 ≤ (Int32.toInt ((1 : Int32) <<< (b &&& 31))) ∧ (Int32.toInt ((1 : Int32) <<< (b &&& 31))) ≤ 64 := shl1_b (by omega) (by omega)
  have t4 : (Int32.toInt (((1 : Int32) <<< (b &&& 31)) - 1)) = (Int32.toInt ((1 : Int32) <<< (b &&& 31))) - 1 := sub_z rfl rfl (by omega) (by omega)
  have k5 : Int32.toInt 0 = 0 := rfl
  refine sl_X9_fillRow_9 a b (f_h0_price) (f_h0_fewest) (f_h0_told) ⟨by omega, by omega⟩ ⟨by omega, by omega⟩ h_f_h0_price h_f_h0_fewest h_f_h0_told _ (fun x1_0 x1_1 x1_2 X2 => ?_) 1000000000000 0 (((1 : Int32) <<< (b &&& 31)) - 1) (f_h0_cellOfShaft) ⟨(by decide), ⟨by omega, by omega⟩⟩ (by omega)
  have j6 := X2.1
  have j7 := X2.2
  exact hq _ trivial


set_option maxRecDepth 100000 in
theorem sl_X9_priceAll_N_46 (d : Int32) (f_p0_crew_cell : Nat → Int32) (f_h0_told : Nat → Int32) (x_3_0 : Int32) (x_3_2 : Nat → Int32) (x_3_4 : Nat → Int32) (r_18 : Int32) (h_d : 0 ≤ d.toInt ∧ d.toInt ≤ 6) (h_f_p0_crew_cell : CE f_p0_crew_cell) (h_f_h0_told : TO f_h0_told) (h_x_3_0 : 0 ≤ x_3_0.toInt ∧ x_3_0.toInt ≤ 5) (h_x_3_2 : CS x_3_2) (h_r_18 : 0 ≤ r_18.toInt ∧ r_18.toInt ≤ 0) (Qb : Int32 → (Nat → Int32) → (Nat → Int32) → Prop) (KX : ∀ (x_46_0 : Int32) (x_46_1 : Nat → Int32) (x_46_2 : Nat → Int32), (0 ≤ x_46_0.toInt ∧ x_46_0.toInt ≤ 6) ∧ (PC x_46_1) ∧ (LE x_46_2) → Qb x_46_0 x_46_1 x_46_2) : ∀ (n : Nat) (x_46_0 : Int32) (x_46_1 : Nat → Int32) (x_46_2 : Nat → Int32), (0 ≤ x_46_0.toInt ∧ x_46_0.toInt ≤ 6) ∧ (PC x_46_1) ∧ (LE x_46_2) → 7 - x_46_0.toInt < (n : Int) → wl_X9_priceAll_N_46 d f_p0_crew_cell f_h0_told x_3_0 x_3_2 x_3_4 r_18 Qb n x_46_0 x_46_1 x_46_2 := by
  intro n
  induction n with
  | zero =>
    intro x_46_0 x_46_1 x_46_2 hI hm
    exfalso; have hm : 7 - x_46_0.toInt < 0 := hm; omega
  | succ n ih =>
    intro x_46_0 x_46_1 x_46_2 hI hm
    have hm : 7 - x_46_0.toInt < (n : Int) + 1 := by simpa using hm
    have h_x_46_0 := hI.1
    have h_x_46_1 := hI.2.1
    have h_x_46_2 := hI.2.2
    unfold wl_X9_priceAll_N_46
    by_cases c9 : d ≤ x_46_0
    · refine br1 c9 ?_
      have d10 := le_z (x := (Int32.toInt d)) (y := (Int32.toInt x_46_0)) rfl rfl c9
      exact KX _ _ _ ⟨⟨by omega, by omega⟩, h_x_46_1, h_x_46_2⟩
    · refine br0 c9 ?_
      have d11 := nle_z (x := (Int32.toInt d)) (y := (Int32.toInt x_46_0)) rfl rfl c9
      refine br1 (z_eq (x := (Int32.toInt r_18)) (y := 0) rfl rfl (by omega)) ?_
      have t12 : (Int32.toInt (x_3_0 * 6)) = (Int32.toInt x_3_0) * 6 := mul_z rfl rfl (by omega) (by omega)
      have t13 : (Int32.toInt ((x_3_0 * 6) + x_46_0)) = (Int32.toInt (x_3_0 * 6)) + (Int32.toInt x_46_0) := add_z rfl rfl (by omega) (by omega)
      refine ⟨vpi (x := (Int32.toInt ((x_3_0 * 6) + x_46_0))) rfl (by omega) (by omega), ?_⟩
      have t14 : (Int32.toInt (x_46_0 + 1)) = (Int32.toInt x_46_0) + 1 := add_z rfl rfl (by omega) (by omega)
      have R15 : PC (upd x_46_1 ((x_3_0 * 6) + x_46_0).toNatClampNeg 1000000) := PC.up_0 h_x_46_1 (tnz (x := (Int32.toInt ((x_3_0 * 6) + x_46_0))) rfl (by omega)) (by omega) (by omega) (w := 1000000) rfl (by omega) (by omega)
      exact ih _ _ _ ⟨⟨by omega, by omega⟩, R15, h_x_46_2⟩ (by omega)
set_option maxRecDepth 100000 in
theorem sl_X9_priceAll_N_46a (d : Int32) (f_p0_crew_cell : Nat → Int32) (f_h0_told : Nat → Int32) (x_3_0 : Int32) (x_3_2 : Nat → Int32) (x_3_4 : Nat → Int32) (r_18 : Int32) (h_d : 0 ≤ d.toInt ∧ d.toInt ≤ 0) (h_f_p0_crew_cell : CE f_p0_crew_cell) (h_f_h0_told : TO f_h0_told) (h_x_3_0 : 0 ≤ x_3_0.toInt ∧ x_3_0.toInt ≤ 5) (h_x_3_2 : CS x_3_2) (h_r_18 : 1 ≤ r_18.toInt ∧ r_18.toInt ≤ 1) (Qb : Int32 → (Nat → Int32) → (Nat → Int32) → Prop) (KX : ∀ (x_46_0 : Int32) (x_46_1 : Nat → Int32) (x_46_2 : Nat → Int32), (0 ≤ x_46_0.toInt ∧ x_46_0.toInt ≤ 0) ∧ (PC x_46_1) ∧ (LE x_46_2) → Qb x_46_0 x_46_1 x_46_2) : ∀ (n : Nat) (x_46_0 : Int32) (x_46_1 : Nat → Int32) (x_46_2 : Nat → Int32), (0 ≤ x_46_0.toInt ∧ x_46_0.toInt ≤ 0) ∧ (PC x_46_1) ∧ (LE x_46_2) → 1 - x_46_0.toInt < (n : Int) → wl_X9_priceAll_N_46a d f_p0_crew_cell f_h0_told x_3_0 x_3_2 x_3_4 r_18 Qb n x_46_0 x_46_1 x_46_2 := by
  intro n
  induction n with
  | zero =>
    intro x_46_0 x_46_1 x_46_2 hI hm
    exfalso; have hm : 1 - x_46_0.toInt < 0 := hm; omega
  | succ n ih =>
    intro x_46_0 x_46_1 x_46_2 hI hm
    have hm : 1 - x_46_0.toInt < (n : Int) + 1 := by simpa using hm
    have h_x_46_0 := hI.1
    have h_x_46_1 := hI.2.1
    have h_x_46_2 := hI.2.2
    unfold wl_X9_priceAll_N_46a
    refine br1 (z_le (x := (Int32.toInt d)) (y := (Int32.toInt x_46_0)) rfl rfl (by omega)) ?_
    exact KX _ _ _ ⟨⟨by omega, by omega⟩, h_x_46_1, h_x_46_2⟩
set_option maxRecDepth 100000 in
theorem sl_X9_priceAll_N_46b (d : Int32) (f_p0_crew_cell : Nat → Int32) (f_h0_told : Nat → Int32) (x_3_0 : Int32) (r_18 : Int32) (u_40_3 : Nat → Int32) (u_40_4 : Nat → Int32) (h_d : 1 ≤ d.toInt ∧ d.toInt ≤ 6) (h_f_p0_crew_cell : CE f_p0_crew_cell) (h_f_h0_told : TO f_h0_told) (h_x_3_0 : 0 ≤ x_3_0.toInt ∧ x_3_0.toInt ≤ 5) (h_r_18 : 1 ≤ r_18.toInt ∧ r_18.toInt ≤ 1) (h_u_40_3 : CS u_40_3) (Qb : Int32 → (Nat → Int32) → (Nat → Int32) → Prop) (KX : ∀ (x_46_0 : Int32) (x_46_1 : Nat → Int32) (x_46_2 : Nat → Int32), (1 ≤ x_46_0.toInt ∧ x_46_0.toInt ≤ 6) ∧ (PC x_46_1) ∧ (LE x_46_2) → Qb x_46_0 x_46_1 x_46_2) : ∀ (n : Nat) (x_46_0 : Int32) (x_46_1 : Nat → Int32) (x_46_2 : Nat → Int32), (0 ≤ x_46_0.toInt ∧ x_46_0.toInt ≤ 6) ∧ (PC x_46_1) ∧ (LE x_46_2) → 7 - x_46_0.toInt < (n : Int) → wl_X9_priceAll_N_46b d f_p0_crew_cell f_h0_told x_3_0 r_18 u_40_3 u_40_4 Qb n x_46_0 x_46_1 x_46_2 := by
  intro n
  induction n with
  | zero =>
    intro x_46_0 x_46_1 x_46_2 hI hm
    exfalso; have hm : 7 - x_46_0.toInt < 0 := hm; omega
  | succ n ih =>
    intro x_46_0 x_46_1 x_46_2 hI hm
    have hm : 7 - x_46_0.toInt < (n : Int) + 1 := by simpa using hm
    have h_x_46_0 := hI.1
    have h_x_46_1 := hI.2.1
    have h_x_46_2 := hI.2.2
    unfold wl_X9_priceAll_N_46b
    by_cases c31 : d ≤ x_46_0
    · refine br1 c31 ?_
      have d32 := le_z (x := (Int32.toInt d)) (y := (Int32.toInt x_46_0)) rfl rfl c31
      exact KX _ _ _ ⟨⟨by omega, by omega⟩, h_x_46_1, h_x_46_2⟩
    · refine br0 c31 ?_
      have d33 := nle_z (x := (Int32.toInt d)) (y := (Int32.toInt x_46_0)) rfl rfl c31
      refine br0 (z_ne (x := (Int32.toInt r_18)) (y := 0) rfl rfl (by omega)) ?_
      refine ⟨vpi (x := (Int32.toInt x_3_0)) rfl (by omega) (by omega), ?_⟩
      refine ⟨vpi (x := (Int32.toInt x_46_0)) rfl (by omega) (by omega), ?_⟩
      have g34 : 0 ≤ (Int32.toInt (f_p0_crew_cell x_3_0.toNatClampNeg)) ∧ (Int32.toInt (f_p0_crew_cell x_3_0.toNatClampNeg)) ≤ 39 := CE.at_0 h_f_p0_crew_cell (tnz (x := (Int32.toInt x_3_0)) rfl (by omega)) (by omega) (by omega)
      refine s_X9_daysTo (f_p0_crew_cell x_3_0.toNatClampNeg) (f_h0_told x_46_0.toNatClampNeg) (u_40_3) (x_46_2) (u_40_4) ⟨by omega, by omega⟩ h_u_40_3 h_x_46_2 (fun r35 u36 H37 => ?_)
      have j38 := H37.1
      have j39 := H37.2
      have t40 : (Int32.toInt (x_3_0 * 6)) = (Int32.toInt x_3_0) * 6 := mul_z rfl rfl (by omega) (by omega)
      have t41 : (Int32.toInt ((x_3_0 * 6) + x_46_0)) = (Int32.toInt (x_3_0 * 6)) + (Int32.toInt x_46_0) := add_z rfl rfl (by omega) (by omega)
      refine ⟨vpi (x := (Int32.toInt ((x_3_0 * 6) + x_46_0))) rfl (by omega) (by omega), ?_⟩
      have t42 : (Int32.toInt (x_46_0 + 1)) = (Int32.toInt x_46_0) + 1 := add_z rfl rfl (by omega) (by omega)
      have R43 : PC (upd x_46_1 ((x_3_0 * 6) + x_46_0).toNatClampNeg r35) := PC.up_0 h_x_46_1 (tnz (x := (Int32.toInt ((x_3_0 * 6) + x_46_0))) rfl (by omega)) (by omega) (by omega) (w := (Int32.toInt r35)) rfl (by omega) (by omega)
      exact ih _ _ _ ⟨⟨by omega, by omega⟩, R43, j39⟩ (by omega)
set_option maxRecDepth 100000 in
theorem sl_X9_priceAll_N_3 (d : Int32) (p0_crew_count : Int32) (f_p0_crew_cell : Nat → Int32) (p0_rock_dug : Int64) (f_p0_rock_kind : Nat → Int32) (f_h0_told : Nat → Int32) (f_p0_rock_hard : Nat → Int32) (h_d : 0 ≤ d.toInt ∧ d.toInt ≤ 6) (h_p0_crew_count : 0 ≤ p0_crew_count.toInt ∧ p0_crew_count.toInt ≤ 6) (h_f_p0_crew_cell : CE f_p0_crew_cell) (h_f_p0_rock_kind : KI f_p0_rock_kind) (h_f_h0_told : TO f_h0_told) (h_f_p0_rock_hard : HA f_p0_rock_hard) (Qb : Int32 → (Nat → Int32) → (Nat → Int32) → (Nat → Int32) → (Nat → Int32) → Int32 → Int32 → Int32 → Prop) (KX : ∀ (x_3_0 : Int32) (x_3_1 : Nat → Int32) (x_3_2 : Nat → Int32) (x_3_3 : Nat → Int32) (x_3_4 : Nat → Int32) (x_3_5 : Int32) (x_3_6 : Int32) (x_3_7 : Int32), (0 ≤ x_3_0.toInt ∧ x_3_0.toInt ≤ 6) ∧ (PC x_3_1) ∧ (CS x_3_2) ∧ (LE x_3_3) ∧ (0 ≤ x_3_5.toInt ∧ x_3_5.toInt ≤ 39) → Qb x_3_0 x_3_1 x_3_2 x_3_3 x_3_4 x_3_5 x_3_6 x_3_7) : ∀ (n : Nat) (x_3_0 : Int32) (x_3_1 : Nat → Int32) (x_3_2 : Nat → Int32) (x_3_3 : Nat → Int32) (x_3_4 : Nat → Int32) (x_3_5 : Int32) (x_3_6 : Int32) (x_3_7 : Int32), (0 ≤ x_3_0.toInt ∧ x_3_0.toInt ≤ 6) ∧ (PC x_3_1) ∧ (CS x_3_2) ∧ (LE x_3_3) ∧ (0 ≤ x_3_5.toInt ∧ x_3_5.toInt ≤ 39) → 7 - x_3_0.toInt < (n : Int) → wl_X9_priceAll_N_3 d p0_crew_count f_p0_crew_cell p0_rock_dug f_p0_rock_kind f_h0_told f_p0_rock_hard Qb n x_3_0 x_3_1 x_3_2 x_3_3 x_3_4 x_3_5 x_3_6 x_3_7 := by
  intro n
  induction n with
  | zero =>
    intro x_3_0 x_3_1 x_3_2 x_3_3 x_3_4 x_3_5 x_3_6 x_3_7 hI hm
    exfalso; have hm : 7 - x_3_0.toInt < 0 := hm; omega
  | succ n ih =>
    intro x_3_0 x_3_1 x_3_2 x_3_3 x_3_4 x_3_5 x_3_6 x_3_7 hI hm
    have hm : 7 - x_3_0.toInt < (n : Int) + 1 := by simpa using hm
    have h_x_3_0 := hI.1
    have h_x_3_1 := hI.2.1
    have h_x_3_2 := hI.2.2.1
    have h_x_3_3 := hI.2.2.2.1
    have h_x_3_5 := hI.2.2.2.2
    unfold wl_X9_priceAll_N_3
    by_cases c1 : p0_crew_count ≤ x_3_0
    · refine br1 c1 ?_
      have d2 := le_z (x := (Int32.toInt p0_crew_count)) (y := (Int32.toInt x_3_0)) rfl rfl c1
      exact KX _ _ _ _ _ _ _ _ ⟨⟨by omega, by omega⟩, h_x_3_1, h_x_3_2, h_x_3_3, ⟨by omega, by omega⟩⟩
    · refine br0 c1 ?_
      have d3 := nle_z (x := (Int32.toInt p0_crew_count)) (y := (Int32.toInt x_3_0)) rfl rfl c1
      refine s_X10_mayBeDugOn x_3_0 (f_p0_crew_cell) (f_p0_rock_kind) ⟨by omega, by omega⟩ h_f_p0_crew_cell h_f_p0_rock_kind (fun r4 H5 => ?_)
      have j6 := H5
      by_cases c7 : r4 = 0
      · refine br1 c7 ?_
        have d8 := eq_z (x := (Int32.toInt r4)) (y := 0) rfl rfl c7
        have k11 : Int32.toInt 0 = 0 := rfl
        refine sl_X9_priceAll_N_46 d (f_p0_crew_cell) (f_h0_told) x_3_0 (x_3_2) (x_3_4) r4 ⟨by omega, by omega⟩ h_f_p0_crew_cell h_f_h0_told ⟨by omega, by omega⟩ h_x_3_2 ⟨by omega, by omega⟩ _ (fun x9_0 x9_1 x9_2 X10 => ?_) 1000000000000 0 (x_3_1) (x_3_3) ⟨(by decide), h_x_3_1, h_x_3_3⟩ (by omega)
        have j12 := X10.1
        have j13 := X10.2.1
        have j14 := X10.2.2
        have t15 : (Int32.toInt (x_3_0 + 1)) = (Int32.toInt x_3_0) + 1 := add_z rfl rfl (by omega) (by omega)
        exact ih _ _ _ _ _ _ _ _ ⟨⟨by omega, by omega⟩, j13, h_x_3_2, j14, ⟨by omega, by omega⟩⟩ (by omega)
      · refine br0 c7 ?_
        have d16 := ne_z (x := (Int32.toInt r4)) (y := 0) rfl rfl c7
        by_cases c17 : d ≤ 0
        · refine br1 c17 ?_
          have d18 := le_z (x := (Int32.toInt d)) (y := 0) rfl rfl c17
          have k21 : Int32.toInt 0 = 0 := rfl
          refine sl_X9_priceAll_N_46a d (f_p0_crew_cell) (f_h0_told) x_3_0 (x_3_2) (x_3_4) r4 ⟨by omega, by omega⟩ h_f_p0_crew_cell h_f_h0_told ⟨by omega, by omega⟩ h_x_3_2 ⟨by omega, by omega⟩ _ (fun x19_0 x19_1 x19_2 X20 => ?_) 1000000000000 0 (x_3_1) (x_3_3) ⟨(by decide), h_x_3_1, h_x_3_3⟩ (by omega)
          have j22 := X20.1
          have j23 := X20.2.1
          have j24 := X20.2.2
          have t25 : (Int32.toInt (x_3_0 + 1)) = (Int32.toInt x_3_0) + 1 := add_z rfl rfl (by omega) (by omega)
          exact ih _ _ _ _ _ _ _ _ ⟨⟨by omega, by omega⟩, j23, h_x_3_2, j24, ⟨by omega, by omega⟩⟩ (by omega)
        · refine br0 c17 ?_
          have d26 := nle_z (x := (Int32.toInt d)) (y := 0) rfl rfl c17
          refine s_X9_weigh_N x_3_0 p0_rock_dug x_3_5 x_3_6 x_3_7 (f_p0_rock_kind) (f_p0_rock_hard) (x_3_2) (x_3_4) ⟨by omega, by omega⟩ h_f_p0_rock_kind h_f_p0_rock_hard h_x_3_2 (fun u27_0 u27_1 u27_2 u27_3 u27_4 H28 => ?_)
          have j29 := H28.1
          have j30 := H28.2
          refine un5_i ?_
          have k33 : Int32.toInt 0 = 0 := rfl
          refine sl_X9_priceAll_N_46b d (f_p0_crew_cell) (f_h0_told) x_3_0 r4 (u27_3) (u27_4) ⟨by omega, by omega⟩ h_f_p0_crew_cell h_f_h0_told ⟨by omega, by omega⟩ ⟨by omega, by omega⟩ j30 _ (fun x31_0 x31_1 x31_2 X32 => ?_) 1000000000000 0 (x_3_1) (x_3_3) ⟨(by decide), h_x_3_1, h_x_3_3⟩ (by omega)
          have j34 := X32.1
          have j35 := X32.2.1
          have j36 := X32.2.2
          have t37 : (Int32.toInt (x_3_0 + 1)) = (Int32.toInt x_3_0) + 1 := add_z rfl rfl (by omega) (by omega)
          exact ih _ _ _ _ _ _ _ _ ⟨⟨by omega, by omega⟩, j35, j30, j36, ⟨by omega, by omega⟩⟩ (by omega)
set_option maxRecDepth 100000 in
theorem s_X9_priceAll_N (d : Int32) (p0_crew_count : Int32) (f_p0_crew_cell : Nat → Int32) (p0_rock_dug : Int64) (f_p0_rock_kind : Nat → Int32) (f_h0_price : Nat → Int32) (f_h0_told : Nat → Int32) (f_h0_cost : Nat → Int32) (f_h0_left : Nat → Int32) (f_h0_endsWay : Nat → Int32) (p1_cell : Int32) (p1_shaft : Int32) (p1_kind : Int32) (f_p0_rock_hard : Nat → Int32) (h_d : 0 ≤ d.toInt ∧ d.toInt ≤ 6) (h_p0_crew_count : 0 ≤ p0_crew_count.toInt ∧ p0_crew_count.toInt ≤ 6) (h_f_p0_crew_cell : CE f_p0_crew_cell) (h_f_p0_rock_kind : KI f_p0_rock_kind) (h_f_h0_price : PC f_h0_price) (h_f_h0_told : TO f_h0_told) (h_f_h0_cost : CS f_h0_cost) (h_f_h0_left : LE f_h0_left) (h_p1_cell : 0 ≤ p1_cell.toInt ∧ p1_cell.toInt ≤ 39) (h_f_p0_rock_hard : HA f_p0_rock_hard) {Q : ((Nat → Int32) × (Nat → Int32) × (Nat → Int32) × (Nat → Int32) × Int32 × Int32 × Int32) → Prop} (hq : ∀ (u_0 : Nat → Int32) (u_1 : Nat → Int32) (u_2 : Nat → Int32) (u_3 : Nat → Int32) (u_4 : Int32) (u_5 : Int32) (u_6 : Int32), (PC u_0) ∧ (CS u_1) ∧ (LE u_2) ∧ (0 ≤ u_4.toInt ∧ u_4.toInt ≤ 39) → Q (u_0, u_1, u_2, u_3, u_4, u_5, u_6)) : wp_X9_priceAll_N d p0_crew_count f_p0_crew_cell p0_rock_dug f_p0_rock_kind f_h0_price f_h0_told f_h0_cost f_h0_left f_h0_endsWay p1_cell p1_shaft p1_kind f_p0_rock_hard Q := by
  unfold wp_X9_priceAll_N
  have k3 : Int32.toInt 0 = 0 := rfl
  refine sl_X9_priceAll_N_3 d p0_crew_count (f_p0_crew_cell) p0_rock_dug (f_p0_rock_kind) (f_h0_told) (f_p0_rock_hard) ⟨by omega, by omega⟩ ⟨by omega, by omega⟩ h_f_p0_crew_cell h_f_p0_rock_kind h_f_h0_told h_f_p0_rock_hard _ (fun x1_0 x1_1 x1_2 x1_3 x1_4 x1_5 x1_6 x1_7 X2 => ?_) 1000000000000 0 (f_h0_price) (f_h0_cost) (f_h0_left) (f_h0_endsWay) p1_cell p1_shaft p1_kind ⟨(by decide), h_f_h0_price, h_f_h0_cost, h_f_h0_left, ⟨by omega, by omega⟩⟩ (by omega)
  have j4 := X2.1
  have j5 := X2.2.1
  have j6 := X2.2.2.1
  have j7 := X2.2.2.2.1
  have j8 := X2.2.2.2.2
  exact hq _ _ _ _ _ _ _ ⟨j5, j6, j7, ⟨by omega, by omega⟩⟩


set_option maxRecDepth 100000 in
theorem sl_X9_share_N_6 (d : Int64) (Qb : Int32 → Int32 → (Nat → Int32) → Prop) (KX : ∀ (x_6_0 : Int32) (x_6_1 : Int32) (x_6_2 : Nat → Int32), (0 ≤ x_6_0.toInt ∧ x_6_0.toInt ≤ 40) ∧ (0 ≤ x_6_1.toInt ∧ x_6_1.toInt ≤ 6) ∧ (TO x_6_2) → Qb x_6_0 x_6_1 x_6_2) : ∀ (n : Nat) (x_6_0 : Int32) (x_6_1 : Int32) (x_6_2 : Nat → Int32), (0 ≤ x_6_0.toInt ∧ x_6_0.toInt ≤ 40) ∧ (0 ≤ x_6_1.toInt ∧ x_6_1.toInt ≤ 6) ∧ (TO x_6_2) → 41 - x_6_0.toInt < (n : Int) → wl_X9_share_N_6 d Qb n x_6_0 x_6_1 x_6_2 := by
  intro n
  induction n with
  | zero =>
    intro x_6_0 x_6_1 x_6_2 hI hm
    exfalso; have hm : 41 - x_6_0.toInt < 0 := hm; omega
  | succ n ih =>
    intro x_6_0 x_6_1 x_6_2 hI hm
    have hm : 41 - x_6_0.toInt < (n : Int) + 1 := by simpa using hm
    have h_x_6_0 := hI.1
    have h_x_6_1 := hI.2.1
    have h_x_6_2 := hI.2.2
    unfold wl_X9_share_N_6
    by_cases c1 : 40 ≤ x_6_0
    · refine br1 c1 ?_
      have d2 := le_z (x := 40) (y := (Int32.toInt x_6_0)) rfl rfl c1
      exact KX _ _ _ ⟨⟨by omega, by omega⟩, ⟨by omega, by omega⟩, h_x_6_2⟩
    · refine br0 c1 ?_
      have d3 := nle_z (x := 40) (y := (Int32.toInt x_6_0)) rfl rfl c1
      by_cases c4 : 6 ≤ x_6_1
      · refine br1 c4 ?_
        have d5 := le_z (x := 6) (y := (Int32.toInt x_6_1)) rfl rfl c4
        exact KX _ _ _ ⟨⟨by omega, by omega⟩, ⟨by omega, by omega⟩, h_x_6_2⟩
      · refine br0 c4 ?_
        have d6 := nle_z (x := 6) (y := (Int32.toInt x_6_1)) rfl rfl c4
        by_cases c7 : (lg_cmp ((d >>> (x_6_0.toInt64 &&& 63)) &&& 1) 0) = 0
        · refine br1 c7 ?_
          have d8 := c_eq (x := (Int64.toInt ((d >>> (x_6_0.toInt64 &&& 63)) &&& 1))) (y := 0) rfl rfl c7
          have t9 : (Int32.toInt (x_6_0 + 1)) = (Int32.toInt x_6_0) + 1 := add_z rfl rfl (by omega) (by omega)
          exact ih _ _ _ ⟨⟨by omega, by omega⟩, ⟨by omega, by omega⟩, h_x_6_2⟩ (by omega)
        · refine br0 c7 ?_
          have d10 := c_ne (x := (Int64.toInt ((d >>> (x_6_0.toInt64 &&& 63)) &&& 1))) (y := 0) rfl rfl c7
          refine ⟨vpi (x := (Int32.toInt x_6_1)) rfl (by omega) (by omega), ?_⟩
          have t11 : (Int32.toInt (x_6_0 + 1)) = (Int32.toInt x_6_0) + 1 := add_z rfl rfl (by omega) (by omega)
          have t12 : (Int32.toInt (x_6_1 + 1)) = (Int32.toInt x_6_1) + 1 := add_z rfl rfl (by omega) (by omega)
          have R13 : TO (upd x_6_2 x_6_1.toNatClampNeg x_6_0) := TO.up_0 h_x_6_2 (tnz (x := (Int32.toInt x_6_1)) rfl (by omega)) (by omega) (by omega) (w := (Int32.toInt x_6_0)) rfl (by omega) (by omega)
          exact ih _ _ _ ⟨⟨by omega, by omega⟩, ⟨by omega, by omega⟩, R13⟩ (by omega)
set_option maxRecDepth 100000 in
theorem sl_X9_share_N_77 (p0_crew_count : Int32) (x_6_1 : Int32) (h_p0_crew_count : 0 ≤ p0_crew_count.toInt ∧ p0_crew_count.toInt ≤ 6) (h_x_6_1 : 0 ≤ x_6_1.toInt ∧ x_6_1.toInt ≤ 6) (Qb : Int32 → (Nat → Int32) → Prop) (KX : ∀ (x_77_0 : Int32) (x_77_1 : Nat → Int32), (1 ≤ x_77_0.toInt ∧ x_77_0.toInt ≤ 64) ∧ (FW x_77_1) → Qb x_77_0 x_77_1) : ∀ (n : Nat) (x_77_0 : Int32) (x_77_1 : Nat → Int32), (0 ≤ x_77_0.toInt ∧ x_77_0.toInt ≤ 64) ∧ (FW x_77_1) → 65 - x_77_0.toInt < (n : Int) → wl_X9_share_N_77 p0_crew_count x_6_1 Qb n x_77_0 x_77_1 := by
  intro n
  induction n with
  | zero =>
    intro x_77_0 x_77_1 hI hm
    exfalso; have hm : 65 - x_77_0.toInt < 0 := hm; omega
  | succ n ih =>
    intro x_77_0 x_77_1 hI hm
    have hm : 65 - x_77_0.toInt < (n : Int) + 1 := by simpa using hm
    have h_x_77_0 := hI.1
    have h_x_77_1 := hI.2
    unfold wl_X9_share_N_77
    by_cases c13 : (((1 : Int32) <<< (x_6_1 &&& 31)) - 1) < x_77_0
    · refine br1 c13 ?_
      have t14 : 1 ≤ (Int32.toInt ((1 : Int32) <<< (x_6_1 &&& 31))) ∧ (Int32.toInt ((1 : Int32) <<< (x_6_1 &&& 31))) ≤ 64 := shl1_b (by omega) (by omega)
      have t15 : (Int32.toInt (((1 : Int32) <<< (x_6_1 &&& 31)) - 1)) = (Int32.toInt ((1 : Int32) <<< (x_6_1 &&& 31))) - 1 := sub_z rfl rfl (by omega) (by omega)
      have d16 := lt_z (x := (Int32.toInt (((1 : Int32) <<< (x_6_1 &&& 31)) - 1))) (y := (Int32.toInt x_77_0)) rfl rfl c13
      exact KX _ _ ⟨⟨by omega, by omega⟩, h_x_77_1⟩
    · refine br0 c13 ?_
      have t17 : 1 ≤ (Int32.toInt ((1 : Int32) <<< (x_6_1 &&& 31))) ∧ (Int32.toInt ((1 : Int32) <<< (x_6_1 &&& 31))) ≤ 64 := shl1_b (by omega) (by omega)
      have t18 : (Int32.toInt (((1 : Int32) <<< (x_6_1 &&& 31)) - 1)) = (Int32.toInt ((1 : Int32) <<< (x_6_1 &&& 31))) - 1 := sub_z rfl rfl (by omega) (by omega)
      have d19 := nlt_z (x := (Int32.toInt (((1 : Int32) <<< (x_6_1 &&& 31)) - 1))) (y := (Int32.toInt x_77_0)) rfl rfl c13
      by_cases c20 : x_77_0 = 0
      · refine br1 c20 ?_
        have d21 := eq_z (x := (Int32.toInt x_77_0)) (y := 0) rfl rfl c20
        have t22 : (Int32.toInt (p0_crew_count * 64)) = (Int32.toInt p0_crew_count) * 64 := mul_z rfl rfl (by omega) (by omega)
        have t23 : (Int32.toInt ((p0_crew_count * 64) + x_77_0)) = (Int32.toInt (p0_crew_count * 64)) + (Int32.toInt x_77_0) := add_z rfl rfl (by omega) (by omega)
        refine ⟨vpi (x := (Int32.toInt ((p0_crew_count * 64) + x_77_0))) rfl (by omega) (by omega), ?_⟩
        have t24 : (Int32.toInt (x_77_0 + 1)) = (Int32.toInt x_77_0) + 1 := add_z rfl rfl (by omega) (by omega)
        have R25 : FW (upd x_77_1 ((p0_crew_count * 64) + x_77_0).toNatClampNeg 0) := FW.up_0 h_x_77_1 (tnz (x := (Int32.toInt ((p0_crew_count * 64) + x_77_0))) rfl (by omega)) (by omega) (by omega) (w := 0) rfl (by omega) (by omega)
        exact ih _ _ ⟨⟨by omega, by omega⟩, R25⟩ (by omega)
      · refine br0 c20 ?_
        have d26 := ne_z (x := (Int32.toInt x_77_0)) (y := 0) rfl rfl c20
        have t27 : (Int32.toInt (p0_crew_count * 64)) = (Int32.toInt p0_crew_count) * 64 := mul_z rfl rfl (by omega) (by omega)
        have t28 : (Int32.toInt ((p0_crew_count * 64) + x_77_0)) = (Int32.toInt (p0_crew_count * 64)) + (Int32.toInt x_77_0) := add_z rfl rfl (by omega) (by omega)
        refine ⟨vpi (x := (Int32.toInt ((p0_crew_count * 64) + x_77_0))) rfl (by omega) (by omega), ?_⟩
        have t29 : (Int32.toInt (x_77_0 + 1)) = (Int32.toInt x_77_0) + 1 := add_z rfl rfl (by omega) (by omega)
        have R30 : FW (upd x_77_1 ((p0_crew_count * 64) + x_77_0).toNatClampNeg 1000000) := FW.up_0 h_x_77_1 (tnz (x := (Int32.toInt ((p0_crew_count * 64) + x_77_0))) rfl (by omega)) (by omega) (by omega) (w := 1000000) rfl (by omega) (by omega)
        exact ih _ _ ⟨⟨by omega, by omega⟩, R30⟩ (by omega)
set_option maxRecDepth 100000 in
theorem sl_X9_share_N_128 (x_6_1 : Int32) (u_54_0 : Nat → Int32) (x_120_0 : Int32) (h_x_6_1 : 0 ≤ x_6_1.toInt ∧ x_6_1.toInt ≤ 6) (h_u_54_0 : PC u_54_0) (h_x_120_0 : 0 ≤ x_120_0.toInt ∧ x_120_0.toInt ≤ 5) (Qb : Int32 → (Nat → Int32) → Prop) (KX : ∀ (x_128_0 : Int32) (x_128_1 : Nat → Int32), (1 ≤ x_128_0.toInt ∧ x_128_0.toInt ≤ 64) ∧ (FW x_128_1) → Qb x_128_0 x_128_1) : ∀ (n : Nat) (x_128_0 : Int32) (x_128_1 : Nat → Int32), (0 ≤ x_128_0.toInt ∧ x_128_0.toInt ≤ 64) ∧ (FW x_128_1) → 65 - x_128_0.toInt < (n : Int) → wl_X9_share_N_128 x_6_1 u_54_0 x_120_0 Qb n x_128_0 x_128_1 := by
  intro n
  induction n with
  | zero =>
    intro x_128_0 x_128_1 hI hm
    exfalso; have hm : 65 - x_128_0.toInt < 0 := hm; omega
  | succ n ih =>
    intro x_128_0 x_128_1 hI hm
    have hm : 65 - x_128_0.toInt < (n : Int) + 1 := by simpa using hm
    have h_x_128_0 := hI.1
    have h_x_128_1 := hI.2
    unfold wl_X9_share_N_128
    by_cases c20 : (((1 : Int32) <<< (x_6_1 &&& 31)) - 1) < x_128_0
    · refine br1 c20 ?_
      have t21 : 1 ≤ (Int32.toInt ((1 : Int32) <<< (x_6_1 &&& 31))) ∧ (Int32.toInt ((1 : Int32) <<< (x_6_1 &&& 31))) ≤ 64 := shl1_b (by omega) (by omega)
      have t22 : (Int32.toInt (((1 : Int32) <<< (x_6_1 &&& 31)) - 1)) = (Int32.toInt ((1 : Int32) <<< (x_6_1 &&& 31))) - 1 := sub_z rfl rfl (by omega) (by omega)
      have d23 := lt_z (x := (Int32.toInt (((1 : Int32) <<< (x_6_1 &&& 31)) - 1))) (y := (Int32.toInt x_128_0)) rfl rfl c20
      exact KX _ _ ⟨⟨by omega, by omega⟩, h_x_128_1⟩
    · refine br0 c20 ?_
      have t24 : 1 ≤ (Int32.toInt ((1 : Int32) <<< (x_6_1 &&& 31))) ∧ (Int32.toInt ((1 : Int32) <<< (x_6_1 &&& 31))) ≤ 64 := shl1_b (by omega) (by omega)
      have t25 : (Int32.toInt (((1 : Int32) <<< (x_6_1 &&& 31)) - 1)) = (Int32.toInt ((1 : Int32) <<< (x_6_1 &&& 31))) - 1 := sub_z rfl rfl (by omega) (by omega)
      have d26 := nlt_z (x := (Int32.toInt (((1 : Int32) <<< (x_6_1 &&& 31)) - 1))) (y := (Int32.toInt x_128_0)) rfl rfl c20
      refine s_X9_fewestFrom x_120_0 x_128_0 x_6_1 (x_128_1) (u_54_0) ⟨by omega, by omega⟩ ⟨by omega, by omega⟩ ⟨by omega, by omega⟩ h_x_128_1 h_u_54_0 (fun r27 H28 => ?_)
      have j29 := H28
      have t30 : (Int32.toInt (x_120_0 * 64)) = (Int32.toInt x_120_0) * 64 := mul_z rfl rfl (by omega) (by omega)
      have t31 : (Int32.toInt ((x_120_0 * 64) + x_128_0)) = (Int32.toInt (x_120_0 * 64)) + (Int32.toInt x_128_0) := add_z rfl rfl (by omega) (by omega)
      refine ⟨vpi (x := (Int32.toInt ((x_120_0 * 64) + x_128_0))) rfl (by omega) (by omega), ?_⟩
      have t32 : (Int32.toInt (x_128_0 + 1)) = (Int32.toInt x_128_0) + 1 := add_z rfl rfl (by omega) (by omega)
      have R33 : FW (upd x_128_1 ((x_120_0 * 64) + x_128_0).toNatClampNeg r27) := FW.up_0 h_x_128_1 (tnz (x := (Int32.toInt ((x_120_0 * 64) + x_128_0))) rfl (by omega)) (by omega) (by omega) (w := (Int32.toInt r27)) rfl (by omega) (by omega)
      exact ih _ _ ⟨⟨by omega, by omega⟩, R33⟩ (by omega)
set_option maxRecDepth 100000 in
theorem sl_X9_share_N_120 (x_6_1 : Int32) (u_54_0 : Nat → Int32) (h_x_6_1 : 0 ≤ x_6_1.toInt ∧ x_6_1.toInt ≤ 6) (h_u_54_0 : PC u_54_0) (Qb : Int32 → (Nat → Int32) → Prop) (KX : ∀ (x_120_0 : Int32) (x_120_1 : Nat → Int32), ((-1) ≤ x_120_0.toInt ∧ x_120_0.toInt ≤ (-1)) ∧ (FW x_120_1) → Qb x_120_0 x_120_1) : ∀ (n : Nat) (x_120_0 : Int32) (x_120_1 : Nat → Int32), ((-1) ≤ x_120_0.toInt ∧ x_120_0.toInt ≤ 5) ∧ (FW x_120_1) → x_120_0.toInt - (-2) < (n : Int) → wl_X9_share_N_120 x_6_1 u_54_0 Qb n x_120_0 x_120_1 := by
  intro n
  induction n with
  | zero =>
    intro x_120_0 x_120_1 hI hm
    exfalso; have hm : x_120_0.toInt - (-2) < 0 := hm; omega
  | succ n ih =>
    intro x_120_0 x_120_1 hI hm
    have hm : x_120_0.toInt - (-2) < (n : Int) + 1 := by simpa using hm
    have h_x_120_0 := hI.1
    have h_x_120_1 := hI.2
    unfold wl_X9_share_N_120
    by_cases c17 : x_120_0 < 0
    · refine br1 c17 ?_
      have d18 := lt_z (x := (Int32.toInt x_120_0)) (y := 0) rfl rfl c17
      exact KX _ _ ⟨⟨by omega, by omega⟩, h_x_120_1⟩
    · refine br0 c17 ?_
      have d19 := nlt_z (x := (Int32.toInt x_120_0)) (y := 0) rfl rfl c17
      have k22 : Int32.toInt 0 = 0 := rfl
      refine sl_X9_share_N_128 x_6_1 (u_54_0) x_120_0 ⟨by omega, by omega⟩ h_u_54_0 ⟨by omega, by omega⟩ _ (fun x20_0 x20_1 X21 => ?_) 1000000000000 0 (x_120_1) ⟨(by decide), h_x_120_1⟩ (by omega)
      have j23 := X21.1
      have j24 := X21.2
      have t25 : (Int32.toInt (x_120_0 + (-1))) = (Int32.toInt x_120_0) + (-1) := add_z rfl (by decide) (by omega) (by omega)
      exact ih _ _ ⟨⟨by omega, by omega⟩, j24⟩ (by omega)
set_option maxRecDepth 100000 in
theorem s_X9_share_N (d : Int64) (f_h0_told : Nat → Int32) (p0_crew_count : Int32) (f_p0_crew_cell : Nat → Int32) (p0_rock_dug : Int64) (f_p0_rock_kind : Nat → Int32) (f_h0_price : Nat → Int32) (f_h0_cost : Nat → Int32) (f_h0_left : Nat → Int32) (f_h0_endsWay : Nat → Int32) (p1_cell : Int32) (p1_shaft : Int32) (p1_kind : Int32) (f_p0_rock_hard : Nat → Int32) (f_h0_fewest : Nat → Int32) (f_h0_cellOfShaft : Nat → Int32) (h_f_h0_told : TO f_h0_told) (h_p0_crew_count : 0 ≤ p0_crew_count.toInt ∧ p0_crew_count.toInt ≤ 6) (h_f_p0_crew_cell : CE f_p0_crew_cell) (h_f_p0_rock_kind : KI f_p0_rock_kind) (h_f_h0_price : PC f_h0_price) (h_f_h0_cost : CS f_h0_cost) (h_f_h0_left : LE f_h0_left) (h_p1_cell : 0 ≤ p1_cell.toInt ∧ p1_cell.toInt ≤ 39) (h_f_p0_rock_hard : HA f_p0_rock_hard) (h_f_h0_fewest : FW f_h0_fewest) {Q : Int32 → (Int32 × (Nat → Int32) × (Nat → Int32) × (Nat → Int32) × (Nat → Int32) × (Nat → Int32) × Int32 × Int32 × Int32 × (Nat → Int32) × (Nat → Int32)) → Prop} (hq : ∀ (r : Int32) (u_0 : Int32) (u_1 : Nat → Int32) (u_2 : Nat → Int32) (u_3 : Nat → Int32) (u_4 : Nat → Int32) (u_5 : Nat → Int32) (u_6 : Int32) (u_7 : Int32) (u_8 : Int32) (u_9 : Nat → Int32) (u_10 : Nat → Int32), (0 ≤ u_0.toInt ∧ u_0.toInt ≤ 2000000) ∧ (TO u_1) ∧ (PC u_2) ∧ (CS u_3) ∧ (LE u_4) ∧ (0 ≤ u_6.toInt ∧ u_6.toInt ≤ 39) ∧ (FW u_9) → Q r (u_0, u_1, u_2, u_3, u_4, u_5, u_6, u_7, u_8, u_9, u_10)) : wp_X9_share_N d f_h0_told p0_crew_count f_p0_crew_cell p0_rock_dug f_p0_rock_kind f_h0_price f_h0_cost f_h0_left f_h0_endsWay p1_cell p1_shaft p1_kind f_p0_rock_hard f_h0_fewest f_h0_cellOfShaft Q := by
  unfold wp_X9_share_N
  have k3 : Int32.toInt 0 = 0 := rfl
  refine sl_X9_share_N_6 d  _ (fun x1_0 x1_1 x1_2 X2 => ?_) 1000000000000 0 0 (f_h0_told) ⟨(by decide), (by decide), h_f_h0_told⟩ (by omega)
  have j4 := X2.1
  have j5 := X2.2.1
  have j6 := X2.2.2
  refine s_X9_priceAll_N x1_1 p0_crew_count (f_p0_crew_cell) p0_rock_dug (f_p0_rock_kind) (f_h0_price) (x1_2) (f_h0_cost) (f_h0_left) (f_h0_endsWay) p1_cell p1_shaft p1_kind (f_p0_rock_hard) ⟨by omega, by omega⟩ ⟨by omega, by omega⟩ h_f_p0_crew_cell h_f_p0_rock_kind h_f_h0_price j6 h_f_h0_cost h_f_h0_left ⟨by omega, by omega⟩ h_f_p0_rock_hard (fun u7_0 u7_1 u7_2 u7_3 u7_4 u7_5 u7_6 H8 => ?_)
  have j9 := H8.1
  have j10 := H8.2.1
  have j11 := H8.2.2.1
  have j12 := H8.2.2.2
  refine un7_i ?_
  refine sl_X9_share_N_77 p0_crew_count x1_1 ⟨by omega, by omega⟩ ⟨by omega, by omega⟩ _ (fun x13_0 x13_1 X14 => ?_) 1000000000000 0 (f_h0_fewest) ⟨(by decide), h_f_h0_fewest⟩ (by omega)
  have j15 := X14.1
  have j16 := X14.2
  have t19 : (Int32.toInt (p0_crew_count - 1)) = (Int32.toInt p0_crew_count) - 1 := sub_z rfl rfl (by omega) (by omega)
  refine sl_X9_share_N_120 x1_1 (u7_0) ⟨by omega, by omega⟩ j9 _ (fun x17_0 x17_1 X18 => ?_) 1000000000000 (p0_crew_count - 1) (x13_1) ⟨⟨by omega, by omega⟩, j16⟩ (by omega)
  have j20 := X18.1
  have j21 := X18.2
  have t22 : 1 ≤ (Int32.toInt ((1 : Int32) <<< (x1_1 &&& 31))) ∧ (Int32.toInt ((1 : Int32) <<< (x1_1 &&& 31))) ≤ 64 := shl1_b (by omega) (by omega)
  have t23 : (Int32.toInt (((1 : Int32) <<< (x1_1 &&& 31)) - 1)) = (Int32.toInt ((1 : Int32) <<< (x1_1 &&& 31))) - 1 := sub_z rfl rfl (by omega) (by omega)
  refine ⟨vpi (x := (Int32.toInt (((1 : Int32) <<< (x1_1 &&& 31)) - 1))) rfl (by omega) (by omega), ?_⟩
  by_cases c24 : (x17_1 (((1 : Int32) <<< (x1_1 &&& 31)) - 1).toNatClampNeg) < 1000000
  · refine br1 c24 ?_
    have g25 : 0 ≤ (Int32.toInt (x17_1 (((1 : Int32) <<< (x1_1 &&& 31)) - 1).toNatClampNeg)) ∧ (Int32.toInt (x17_1 (((1 : Int32) <<< (x1_1 &&& 31)) - 1).toNatClampNeg)) ≤ 1000000 := FW.at_0 j21 (tnz (x := (Int32.toInt (((1 : Int32) <<< (x1_1 &&& 31)) - 1))) rfl (by omega)) (by omega) (by omega)
    have d26 := lt_z (x := (Int32.toInt (x17_1 (((1 : Int32) <<< (x1_1 &&& 31)) - 1).toNatClampNeg))) (y := 1000000) rfl rfl c24
    refine s_X9_fillRow p0_crew_count x1_1 (u7_0) (x17_1) (x1_2) (f_h0_cellOfShaft) ⟨by omega, by omega⟩ ⟨by omega, by omega⟩ j9 j21 j6 (fun u27 H28 => ?_)
    exact hq _ _ _ _ _ _ _ _ _ _ _ _ ⟨⟨by omega, by omega⟩, j6, j9, j10, j11, ⟨by omega, by omega⟩, j21⟩
  · refine br0 c24 ?_
    have g29 : 0 ≤ (Int32.toInt (x17_1 (((1 : Int32) <<< (x1_1 &&& 31)) - 1).toNatClampNeg)) ∧ (Int32.toInt (x17_1 (((1 : Int32) <<< (x1_1 &&& 31)) - 1).toNatClampNeg)) ≤ 1000000 := FW.at_0 j21 (tnz (x := (Int32.toInt (((1 : Int32) <<< (x1_1 &&& 31)) - 1))) rfl (by omega)) (by omega) (by omega)
    have d30 := nlt_z (x := (Int32.toInt (x17_1 (((1 : Int32) <<< (x1_1 &&& 31)) - 1).toNatClampNeg))) (y := 1000000) rfl rfl c24
    exact hq _ _ _ _ _ _ _ _ _ _ _ _ ⟨⟨by omega, by omega⟩, j6, j9, j10, j11, ⟨by omega, by omega⟩, j21⟩


set_option maxRecDepth 100000 in
theorem s_X11_gangs_N (a : Int64) (b : Int32) (h0_site_world : Nat) (h0_site_world_lawCount : Int32) (h0_site_world_force : Int32) (h0_site_world_crew_count : Int32) (f_h0_site_world_laws : Nat → Option Nat) (h0_asker_world : Value) (h0_asker_law : Value) (h0_asker_cell : Int32) (h0_asker_shaft : Int32) (h0_asker_kind : Int32) (h0_ways_days : Int32) (f_h0_ways_told : Nat → Int32) (f_h0_site_world_crew_cell : Nat → Int32) (h0_site_world_rock_dug : Int64) (f_h0_site_world_rock_kind : Nat → Int32) (f_h0_ways_price : Nat → Int32) (f_h0_ways_cost : Nat → Int32) (f_h0_ways_left : Nat → Int32) (f_h0_ways_endsWay : Nat → Int32) (f_h0_site_world_rock_hard : Nat → Int32) (f_h0_ways_fewest : Nat → Int32) (f_h0_ways_cellOfShaft : Nat → Int32) (h_h0_site_world_lawCount : 0 ≤ h0_site_world_lawCount.toInt ∧ h0_site_world_lawCount.toInt ≤ 6) (h_h0_site_world_force : (-1) ≤ h0_site_world_force.toInt ∧ h0_site_world_force.toInt ≤ (-1)) (h_h0_site_world_crew_count : 0 ≤ h0_site_world_crew_count.toInt ∧ h0_site_world_crew_count.toInt ≤ 6) (h_h0_asker_cell : 0 ≤ h0_asker_cell.toInt ∧ h0_asker_cell.toInt ≤ 39) (h_h0_ways_days : 0 ≤ h0_ways_days.toInt ∧ h0_ways_days.toInt ≤ 2000000) (h_f_h0_ways_told : TO f_h0_ways_told) (h_f_h0_site_world_crew_cell : CE f_h0_site_world_crew_cell) (h_f_h0_site_world_rock_kind : KI f_h0_site_world_rock_kind) (h_f_h0_ways_price : PC f_h0_ways_price) (h_f_h0_ways_cost : CS f_h0_ways_cost) (h_f_h0_ways_left : LE f_h0_ways_left) (h_f_h0_site_world_rock_hard : HA f_h0_site_world_rock_hard) (h_f_h0_ways_fewest : FW f_h0_ways_fewest) {Q : Int32 → (Value × Value × Int32 × Int32 × Int32 × Int32 × (Nat → Int32) × (Nat → Int32) × (Nat → Int32) × (Nat → Int32) × (Nat → Int32) × (Nat → Int32) × (Nat → Int32)) → Prop} (hq : ∀ (r : Int32) (u_0 : Value) (u_1 : Value) (u_2 : Int32) (u_3 : Int32) (u_4 : Int32) (u_5 : Int32) (u_6 : Nat → Int32) (u_7 : Nat → Int32) (u_8 : Nat → Int32) (u_9 : Nat → Int32) (u_10 : Nat → Int32) (u_11 : Nat → Int32) (u_12 : Nat → Int32), (0 ≤ u_2.toInt ∧ u_2.toInt ≤ 39) ∧ (0 ≤ u_5.toInt ∧ u_5.toInt ≤ 2000000) ∧ (TO u_6) ∧ (PC u_7) ∧ (CS u_8) ∧ (LE u_9) ∧ (FW u_11) → Q r (u_0, u_1, u_2, u_3, u_4, u_5, u_6, u_7, u_8, u_9, u_10, u_11, u_12)) : wp_X11_gangs_N a b h0_site_world h0_site_world_lawCount h0_site_world_force h0_site_world_crew_count f_h0_site_world_laws h0_asker_world h0_asker_law h0_asker_cell h0_asker_shaft h0_asker_kind h0_ways_days f_h0_ways_told f_h0_site_world_crew_cell h0_site_world_rock_dug f_h0_site_world_rock_kind f_h0_ways_price f_h0_ways_cost f_h0_ways_left f_h0_ways_endsWay f_h0_site_world_rock_hard f_h0_ways_fewest f_h0_ways_cellOfShaft Q := by
  unfold wp_X11_gangs_N
  by_cases c1 : (lg_cmp a 0) < 0
  · refine br1 c1 ?_
    have d2 := c_lt (x := (Int64.toInt a)) (y := 0) rfl rfl c1
    exact hq _ _ _ _ _ _ _ _ _ _ _ _ _ _ ⟨⟨by omega, by omega⟩, ⟨by omega, by omega⟩, h_f_h0_ways_told, h_f_h0_ways_price, h_f_h0_ways_cost, h_f_h0_ways_left, h_f_h0_ways_fewest⟩
  · refine br0 c1 ?_
    have d3 := c_nlt (x := (Int64.toInt a)) (y := 0) rfl rfl c1
    by_cases c4 : (lg_cmp (a >>> ((40 : Int32).toInt64 &&& 63)) 0) = 0
    · refine br1 c4 ?_
      have d5 := c_eq (x := (Int64.toInt (a >>> ((40 : Int32).toInt64 &&& 63)))) (y := 0) rfl rfl c4
      refine s_J13_bitCount_95d88 a  (fun r6 H7 => ?_)
      by_cases c8 : 6 < r6
      · refine br1 c8 ?_
        have d9 := lt_z (x := 6) (y := (Int32.toInt r6)) rfl rfl c8
        exact hq _ _ _ _ _ _ _ _ _ _ _ _ _ _ ⟨⟨by omega, by omega⟩, ⟨by omega, by omega⟩, h_f_h0_ways_told, h_f_h0_ways_price, h_f_h0_ways_cost, h_f_h0_ways_left, h_f_h0_ways_fewest⟩
      · refine br0 c8 ?_
        have d10 := nlt_z (x := 6) (y := (Int32.toInt r6)) rfl rfl c8
        refine o_X11_isWithin _ _ _ ?_
        by_cases c11 : b < 0
        · refine br1 c11 ?_
          have d12 := lt_z (x := (Int32.toInt b)) (y := 0) rfl rfl c11
          refine br1 (by decide) ?_
          exact hq _ _ _ _ _ _ _ _ _ _ _ _ _ _ ⟨⟨by omega, by omega⟩, ⟨by omega, by omega⟩, h_f_h0_ways_told, h_f_h0_ways_price, h_f_h0_ways_cost, h_f_h0_ways_left, h_f_h0_ways_fewest⟩
        · refine br0 c11 ?_
          have d13 := nlt_z (x := (Int32.toInt b)) (y := 0) rfl rfl c11
          by_cases c14 : (h0_site_world_crew_count + 1) ≤ b
          · refine br1 c14 ?_
            have t15 : (Int32.toInt (h0_site_world_crew_count + 1)) = (Int32.toInt h0_site_world_crew_count) + 1 := add_z rfl rfl (by omega) (by omega)
            have d16 := le_z (x := (Int32.toInt (h0_site_world_crew_count + 1))) (y := (Int32.toInt b)) rfl rfl c14
            refine br1 (by decide) ?_
            exact hq _ _ _ _ _ _ _ _ _ _ _ _ _ _ ⟨⟨by omega, by omega⟩, ⟨by omega, by omega⟩, h_f_h0_ways_told, h_f_h0_ways_price, h_f_h0_ways_cost, h_f_h0_ways_left, h_f_h0_ways_fewest⟩
          · refine br0 c14 ?_
            have t17 : (Int32.toInt (h0_site_world_crew_count + 1)) = (Int32.toInt h0_site_world_crew_count) + 1 := add_z rfl rfl (by omega) (by omega)
            have d18 := nle_z (x := (Int32.toInt (h0_site_world_crew_count + 1))) (y := (Int32.toInt b)) rfl rfl c14
            refine br0 (by decide) ?_
            refine o_X10_lawInForce_N _ _ _ _ ?_
            refine o_X10_lawOf_N _ _ _ _ ?_
            refine br1 (z_lt (x := (Int32.toInt h0_site_world_force)) (y := 0) rfl rfl (by omega)) ?_
            refine o_X0_turnTo_N _ ?_
            refine s_X9_share_N a (f_h0_ways_told) h0_site_world_crew_count (f_h0_site_world_crew_cell) h0_site_world_rock_dug (f_h0_site_world_rock_kind) (f_h0_ways_price) (f_h0_ways_cost) (f_h0_ways_left) (f_h0_ways_endsWay) h0_asker_cell h0_asker_shaft h0_asker_kind (f_h0_site_world_rock_hard) (f_h0_ways_fewest) (f_h0_ways_cellOfShaft) h_f_h0_ways_told ⟨by omega, by omega⟩ h_f_h0_site_world_crew_cell h_f_h0_site_world_rock_kind h_f_h0_ways_price h_f_h0_ways_cost h_f_h0_ways_left ⟨by omega, by omega⟩ h_f_h0_site_world_rock_hard h_f_h0_ways_fewest (fun r19 u20_0 u20_1 u20_2 u20_3 u20_4 u20_5 u20_6 u20_7 u20_8 u20_9 u20_10 H21 => ?_)
            have j22 := H21.1
            have j23 := H21.2.1
            have j24 := H21.2.2.1
            have j25 := H21.2.2.2.1
            have j26 := H21.2.2.2.2.1
            have j27 := H21.2.2.2.2.2.1
            have j28 := H21.2.2.2.2.2.2
            refine un11_i ?_
            by_cases c29 : r19 = 0
            · refine br1 c29 ?_
              have d30 := eq_z (x := (Int32.toInt r19)) (y := 0) rfl rfl c29
              exact hq _ _ _ _ _ _ _ _ _ _ _ _ _ _ ⟨⟨by omega, by omega⟩, ⟨by omega, by omega⟩, j23, j24, j25, j26, j28⟩
            · refine br0 c29 ?_
              have d31 := ne_z (x := (Int32.toInt r19)) (y := 0) rfl rfl c29
              by_cases c32 : b = 0
              · refine br1 c32 ?_
                have d33 := eq_z (x := (Int32.toInt b)) (y := 0) rfl rfl c32
                exact hq _ _ _ _ _ _ _ _ _ _ _ _ _ _ ⟨⟨by omega, by omega⟩, ⟨by omega, by omega⟩, j23, j24, j25, j26, j28⟩
              · refine br0 c32 ?_
                have d34 := ne_z (x := (Int32.toInt b)) (y := 0) rfl rfl c32
                have t35 : (Int32.toInt (b - 1)) = (Int32.toInt b) - 1 := sub_z rfl rfl (by omega) (by omega)
                refine ⟨vpi (x := (Int32.toInt (b - 1))) rfl (by omega) (by omega), ?_⟩
                exact hq _ _ _ _ _ _ _ _ _ _ _ _ _ _ ⟨⟨by omega, by omega⟩, ⟨by omega, by omega⟩, j23, j24, j25, j26, j28⟩
    · refine br0 c4 ?_
      have d36 := c_ne (x := (Int64.toInt (a >>> ((40 : Int32).toInt64 &&& 63)))) (y := 0) rfl rfl c4
      exact hq _ _ _ _ _ _ _ _ _ _ _ _ _ _ ⟨⟨by omega, by omega⟩, ⟨by omega, by omega⟩, h_f_h0_ways_told, h_f_h0_ways_price, h_f_h0_ways_cost, h_f_h0_ways_left, h_f_h0_ways_fewest⟩

