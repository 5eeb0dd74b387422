theorem nfw9 : nativeFrameWords "java/lang/System" "arraycopy" 5 = 7 := by decide +kernel
theorem i32r (x : Int32) : -2147483648 ≤ x.toInt ∧ x.toInt ≤ 2147483647 := ⟨Int32.le_toInt x, Int.le_of_lt_add_one (Int32.toInt_lt x)⟩
