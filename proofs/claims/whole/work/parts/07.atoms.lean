set_option maxRecDepth 100000 in
theorem at_LA_153 : ∀ w ∈ Bundle.ownAtoms "LoanArrows" 153 "java/lang/IndexOutOfBoundsException" mm_nm, w ∈ mm_ws ∨ w ∈ mm_sw := by decide +kernel
set_option maxRecDepth 100000 in
theorem at_LA_65 : ∀ w ∈ Bundle.ownAtoms "LoanArrows" 65 "java/lang/IllegalStateException" mm_nm, w ∈ mm_ws ∨ w ∈ mm_sw := by decide +kernel
set_option maxRecDepth 100000 in
theorem at_LA_76 : ∀ w ∈ Bundle.ownAtoms "LoanArrows" 76 "java/lang/IllegalArgumentException" mm_nm, w ∈ mm_ws ∨ w ∈ mm_sw := by decide +kernel
