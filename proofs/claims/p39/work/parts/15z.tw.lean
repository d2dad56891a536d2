/-! the words of each throw -/
set_option maxRecDepth 100000 in
theorem tw_34_38 : ∀ w ∈ Cond.classLink RX6 34 "java/lang/IllegalStateException" :: Cond.initialized "java/lang/IllegalStateException" :: vx_atS RX6 38 "java/lang/IllegalStateException" thN, w ∈ W0 ∨ w ∈ NQ := by decide +kernel
set_option maxRecDepth 100000 in
theorem tw_80_84 : ∀ w ∈ Cond.classLink RX6 80 "java/lang/UnsupportedOperationException" :: Cond.initialized "java/lang/UnsupportedOperationException" :: vx_atS RX6 84 "java/lang/UnsupportedOperationException" thN, w ∈ W0 ∨ w ∈ NQ := by decide +kernel
set_option maxRecDepth 100000 in
theorem tw_97_101 : ∀ w ∈ Cond.classLink RX6 97 "java/lang/IllegalArgumentException" :: Cond.initialized "java/lang/IllegalArgumentException" :: vx_atS RX6 101 "java/lang/IllegalArgumentException" thN, w ∈ W0 ∨ w ∈ NQ := by decide +kernel
set_option maxRecDepth 100000 in
theorem tw_144_148 : ∀ w ∈ Cond.classLink RX6 144 "java/util/NoSuchElementException" :: Cond.initialized "java/util/NoSuchElementException" :: nz_atS RX6 148 "java/util/NoSuchElementException" "java/lang/RuntimeException" ["java/lang/Exception"], w ∈ W0 ∨ w ∈ NQ := by decide +kernel
set_option maxRecDepth 100000 in
theorem tw_224_228 : ∀ w ∈ Cond.classLink RX6 224 "java/lang/ArithmeticException" :: Cond.initialized "java/lang/ArithmeticException" :: vx_atS RX6 228 "java/lang/ArithmeticException" thN, w ∈ W0 ∨ w ∈ NQ := by decide +kernel
set_option maxRecDepth 100000 in
theorem tw_261_265 : ∀ w ∈ Cond.classLink RX6 261 "java/lang/IndexOutOfBoundsException" :: Cond.initialized "java/lang/IndexOutOfBoundsException" :: vx_atS RX6 265 "java/lang/IndexOutOfBoundsException" thN, w ∈ W0 ∨ w ∈ NQ := by decide +kernel
