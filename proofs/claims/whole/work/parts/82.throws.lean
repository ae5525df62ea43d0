/-! what the tables say of the exceptions that the class throws (written by wip/gen/throws82.py) -/
section S82
variable {w : Cond}
theorem xthrT : ∀ w ∈ Bundle.throwableAtoms, vx_no w = true → w ∈ x_tbl ∨ w ∈ x_dcl := List.forall_mem_cons.mpr ⟨fun _ => Or.inl (x_w1 10 rfl rfl), List.forall_mem_cons.mpr ⟨fun _ => Or.inl (x_w2 88 rfl rfl), List.forall_mem_cons.mpr ⟨fun _ => Or.inl (x_w2 97 rfl rfl), List.forall_mem_cons.mpr ⟨fun _ => Or.inl (x_w2 105 rfl rfl), List.forall_mem_cons.mpr ⟨fun _ => Or.inl (x_w2 108 rfl rfl), List.forall_mem_cons.mpr ⟨fun _ => Or.inl (x_w2 110 rfl rfl), List.forall_mem_cons.mpr ⟨fun _ => Or.inl (x_w2 89 rfl rfl), List.forall_mem_cons.mpr ⟨fun _ => Or.inl (x_w2 90 rfl rfl), List.forall_mem_cons.mpr ⟨fun _ => Or.inl (x_w1 30 rfl rfl), List.forall_mem_cons.mpr ⟨fun _ => Or.inl (x_w1 31 rfl rfl), List.forall_mem_cons.mpr ⟨fun _ => Or.inl (x_w2 91 rfl rfl), List.forall_mem_cons.mpr ⟨fun _ => Or.inl (x_w2 96 rfl rfl), List.forall_mem_cons.mpr ⟨fun _ => Or.inl (x_w2 106 rfl rfl), List.forall_mem_cons.mpr ⟨fun _ => Or.inl (x_w2 126 rfl rfl), List.forall_mem_cons.mpr ⟨fun _ => Or.inl (x_w2 78 rfl rfl), List.forall_mem_cons.mpr ⟨fun _ => Or.inl (x_w2 127 rfl rfl), List.forall_mem_cons.mpr ⟨fun _ => Or.inl (x_w2 80 rfl rfl), List.forall_mem_cons.mpr ⟨fun _ => Or.inl (x_w2 128 rfl rfl), List.forall_mem_cons.mpr ⟨fun _ => Or.inl (x_w2 82 rfl rfl), List.forall_mem_cons.mpr ⟨fun _ => Or.inl (x_w2 92 rfl rfl), List.forall_mem_cons.mpr ⟨fun h => absurd h (by decide), List.forall_mem_cons.mpr ⟨fun _ => Or.inl (x_w2 94 rfl rfl), List.forall_mem_cons.mpr ⟨fun h => absurd h (by decide), List.forall_mem_cons.mpr ⟨fun _ => Or.inl (x_w2 84 rfl rfl), fun _ h => absurd h List.not_mem_nil⟩⟩⟩⟩⟩⟩⟩⟩⟩⟩⟩⟩⟩⟩⟩⟩⟩⟩⟩⟩⟩⟩⟩⟩
theorem xthrU : ∀ w ∈ Bundle.throwableSAtoms, vx_no w = true → w ∈ x_tbl ∨ w ∈ x_dcl := List.forall_mem_cons.mpr ⟨fun _ => Or.inl (x_w2 122 rfl rfl), List.forall_mem_cons.mpr ⟨fun _ => Or.inl (x_w2 123 rfl rfl), List.forall_mem_cons.mpr ⟨fun _ => Or.inl (x_w2 125 rfl rfl), List.forall_mem_cons.mpr ⟨fun _ => Or.inl (x_w2 84 rfl rfl), fun _ h => absurd h List.not_mem_nil⟩⟩⟩⟩
theorem xthrR : ∀ w ∈ Bundle.passSAtoms "java/lang/RuntimeException" "java/lang/Exception" 7 Bundle.six, vx_no w = true → w ∈ x_tbl ∨ w ∈ x_dcl := List.forall_mem_cons.mpr ⟨fun _ => Or.inl (x_w2 116 rfl rfl), List.forall_mem_cons.mpr ⟨fun _ => Or.inl (x_w2 117 rfl rfl), List.forall_mem_cons.mpr ⟨fun _ => Or.inl (x_w2 118 rfl rfl), List.forall_mem_cons.mpr ⟨fun _ => Or.inl (x_w2 119 rfl rfl), List.forall_mem_cons.mpr ⟨fun _ => Or.inr (List.mem_of_getElem? (i := 1) rfl), fun _ h => absurd h List.not_mem_nil⟩⟩⟩⟩⟩
theorem xthrX : ∀ w ∈ Bundle.passSAtoms "java/lang/Exception" Bundle.tN 7 Bundle.six, vx_no w = true → w ∈ x_tbl ∨ w ∈ x_dcl := List.forall_mem_cons.mpr ⟨fun _ => Or.inl (x_w2 119 rfl rfl), List.forall_mem_cons.mpr ⟨fun _ => Or.inl (x_w2 120 rfl rfl), List.forall_mem_cons.mpr ⟨fun _ => Or.inl (x_w2 121 rfl rfl), List.forall_mem_cons.mpr ⟨fun _ => Or.inl (x_w2 122 rfl rfl), List.forall_mem_cons.mpr ⟨fun _ => Or.inr (List.mem_of_getElem? (i := 2) rfl), fun _ h => absurd h List.not_mem_nil⟩⟩⟩⟩⟩
abbrev EISE : String := "java/lang/IllegalStateException"
theorem xthrISE_a : ∀ w ∈ Bundle.passSAtoms EISE "java/lang/RuntimeException" 7 Bundle.six, vx_no w = true → w ∈ x_tbl ∨ w ∈ x_dcl := List.forall_mem_cons.mpr ⟨fun _ => Or.inl (x_w2 113 rfl rfl), List.forall_mem_cons.mpr ⟨fun _ => Or.inl (x_w2 114 rfl rfl), List.forall_mem_cons.mpr ⟨fun _ => Or.inl (x_w2 115 rfl rfl), List.forall_mem_cons.mpr ⟨fun _ => Or.inl (x_w2 116 rfl rfl), List.forall_mem_cons.mpr ⟨fun _ => Or.inr (List.mem_of_getElem? (i := 0) rfl), fun _ h => absurd h List.not_mem_nil⟩⟩⟩⟩⟩
theorem xthrISE_b : ∀ w ∈ ([.methodLink RX7 74 (Bundle.initS EISE), .instantiable EISE 6, .castable EISE EISE, .selects EISE Bundle.tFill0 Bundle.tFill0, .selects EISE Bundle.tFill Bundle.tFill, .lays EISE Bundle.tN "cause" "Ljava/lang/Throwable;", .lays EISE Bundle.tN "stackTrace" Bundle.steD, .lays EISE Bundle.tN "suppressedExceptions" Bundle.listD, .lays EISE Bundle.tN "detailMessage" "Ljava/lang/String;", .isRef (.static Bundle.tN "UNASSIGNED_STACK" Bundle.steD), .isRef (.static Bundle.tN "SUPPRESSED_SENTINEL" Bundle.listD), .fieldLink Bundle.tN 198 Bundle.tN "backtrace" "Ljava/lang/Object;", .lays Bundle.tN Bundle.tN "backtrace" "Ljava/lang/Object;", .lays EISE Bundle.tN "backtrace" "Ljava/lang/Object;"] : List Cond), vx_no w = true → w ∈ x_tbl ∨ w ∈ x_dcl := List.forall_mem_cons.mpr ⟨fun _ => Or.inl (x_w2 112 rfl rfl), List.forall_mem_cons.mpr ⟨fun _ => Or.inl (x_w2 67 rfl rfl), List.forall_mem_cons.mpr ⟨fun _ => Or.inr (List.mem_of_getElem? (i := 3) rfl), List.forall_mem_cons.mpr ⟨fun _ => Or.inl (x_w2 75 rfl rfl), List.forall_mem_cons.mpr ⟨fun _ => Or.inl (x_w2 76 rfl rfl), List.forall_mem_cons.mpr ⟨fun _ => Or.inl (x_w2 77 rfl rfl), List.forall_mem_cons.mpr ⟨fun _ => Or.inl (x_w2 79 rfl rfl), List.forall_mem_cons.mpr ⟨fun _ => Or.inl (x_w2 81 rfl rfl), List.forall_mem_cons.mpr ⟨fun _ => Or.inl (x_w2 83 rfl rfl), List.forall_mem_cons.mpr ⟨fun h => absurd h (by decide), List.forall_mem_cons.mpr ⟨fun h => absurd h (by decide), List.forall_mem_cons.mpr ⟨fun _ => Or.inl (x_w2 87 rfl rfl), List.forall_mem_cons.mpr ⟨fun _ => Or.inl (x_w2 86 rfl rfl), List.forall_mem_cons.mpr ⟨fun _ => Or.inl (x_w2 85 rfl rfl), fun _ h => absurd h List.not_mem_nil⟩⟩⟩⟩⟩⟩⟩⟩⟩⟩⟩⟩⟩⟩
theorem xthrISE : XThr RX7 70 74 EISE := by
  refine ⟨by decide, (x_w2 66 rfl rfl), (x_w1 13 rfl rfl), fun w hw => ?_⟩
  have hm := List.mem_filter.mp hw
  have hn := hm.2
  rcases List.mem_append.mp hm.1 with h | h
  · rcases List.mem_append.mp h with h | h
    · rcases List.mem_append.mp h with h | h
      · exact xthrT w h hn
      · exact xthrU w h hn
    · rcases List.mem_append.mp h with h | h
      · exact xthrISE_a w h hn
      · rcases List.mem_append.mp h with h | h
        · exact xthrR w h hn
        · exact xthrX w h hn
  · exact xthrISE_b w h hn
abbrev EIAE : String := "java/lang/IllegalArgumentException"
theorem xthrIAE_a : ∀ w ∈ Bundle.passSAtoms EIAE "java/lang/RuntimeException" 7 Bundle.six, vx_no w = true → w ∈ x_tbl ∨ w ∈ x_dcl := List.forall_mem_cons.mpr ⟨fun _ => Or.inl (x_w2 226 rfl rfl), List.forall_mem_cons.mpr ⟨fun _ => Or.inl (x_w2 227 rfl rfl), List.forall_mem_cons.mpr ⟨fun _ => Or.inl (x_w2 228 rfl rfl), List.forall_mem_cons.mpr ⟨fun _ => Or.inl (x_w2 116 rfl rfl), List.forall_mem_cons.mpr ⟨fun _ => Or.inr (List.mem_of_getElem? (i := 0) rfl), fun _ h => absurd h List.not_mem_nil⟩⟩⟩⟩⟩
theorem xthrIAE_b : ∀ w ∈ ([.methodLink RX7 100 (Bundle.initS EIAE), .instantiable EIAE 6, .castable EIAE EIAE, .selects EIAE Bundle.tFill0 Bundle.tFill0, .selects EIAE Bundle.tFill Bundle.tFill, .lays EIAE Bundle.tN "cause" "Ljava/lang/Throwable;", .lays EIAE Bundle.tN "stackTrace" Bundle.steD, .lays EIAE Bundle.tN "suppressedExceptions" Bundle.listD, .lays EIAE Bundle.tN "detailMessage" "Ljava/lang/String;", .isRef (.static Bundle.tN "UNASSIGNED_STACK" Bundle.steD), .isRef (.static Bundle.tN "SUPPRESSED_SENTINEL" Bundle.listD), .fieldLink Bundle.tN 198 Bundle.tN "backtrace" "Ljava/lang/Object;", .lays Bundle.tN Bundle.tN "backtrace" "Ljava/lang/Object;", .lays EIAE Bundle.tN "backtrace" "Ljava/lang/Object;"] : List Cond), vx_no w = true → w ∈ x_tbl ∨ w ∈ x_dcl := List.forall_mem_cons.mpr ⟨fun _ => Or.inl (x_w2 225 rfl rfl), List.forall_mem_cons.mpr ⟨fun _ => Or.inl (x_w2 216 rfl rfl), List.forall_mem_cons.mpr ⟨fun _ => Or.inr (List.mem_of_getElem? (i := 4) rfl), List.forall_mem_cons.mpr ⟨fun _ => Or.inl (x_w2 218 rfl rfl), List.forall_mem_cons.mpr ⟨fun _ => Or.inl (x_w2 101 rfl rfl), List.forall_mem_cons.mpr ⟨fun _ => Or.inl (x_w2 219 rfl rfl), List.forall_mem_cons.mpr ⟨fun _ => Or.inl (x_w2 220 rfl rfl), List.forall_mem_cons.mpr ⟨fun _ => Or.inl (x_w2 221 rfl rfl), List.forall_mem_cons.mpr ⟨fun _ => Or.inl (x_w2 222 rfl rfl), List.forall_mem_cons.mpr ⟨fun h => absurd h (by decide), List.forall_mem_cons.mpr ⟨fun h => absurd h (by decide), List.forall_mem_cons.mpr ⟨fun _ => Or.inl (x_w2 87 rfl rfl), List.forall_mem_cons.mpr ⟨fun _ => Or.inl (x_w2 86 rfl rfl), List.forall_mem_cons.mpr ⟨fun _ => Or.inl (x_w2 223 rfl rfl), fun _ h => absurd h List.not_mem_nil⟩⟩⟩⟩⟩⟩⟩⟩⟩⟩⟩⟩⟩⟩
theorem xthrIAE : XThr RX7 96 100 EIAE := by
  refine ⟨by decide, (x_w2 215 rfl rfl), (x_w1 18 rfl rfl), fun w hw => ?_⟩
  have hm := List.mem_filter.mp hw
  have hn := hm.2
  rcases List.mem_append.mp hm.1 with h | h
  · rcases List.mem_append.mp h with h | h
    · rcases List.mem_append.mp h with h | h
      · exact xthrT w h hn
      · exact xthrU w h hn
    · rcases List.mem_append.mp h with h | h
      · exact xthrIAE_a w h hn
      · rcases List.mem_append.mp h with h | h
        · exact xthrR w h hn
        · exact xthrX w h hn
  · exact xthrIAE_b w h hn
abbrev EUOE : String := "java/lang/UnsupportedOperationException"
theorem xthrUOE_a : ∀ w ∈ Bundle.passSAtoms EUOE "java/lang/RuntimeException" 7 Bundle.six, vx_no w = true → w ∈ x_tbl ∨ w ∈ x_dcl := List.forall_mem_cons.mpr ⟨fun _ => Or.inl (x_w5 146 rfl rfl), List.forall_mem_cons.mpr ⟨fun _ => Or.inl (x_w5 147 rfl rfl), List.forall_mem_cons.mpr ⟨fun _ => Or.inl (x_w5 148 rfl rfl), List.forall_mem_cons.mpr ⟨fun _ => Or.inl (x_w2 116 rfl rfl), List.forall_mem_cons.mpr ⟨fun _ => Or.inr (List.mem_of_getElem? (i := 0) rfl), fun _ h => absurd h List.not_mem_nil⟩⟩⟩⟩⟩
theorem xthrUOE_b : ∀ w ∈ ([.methodLink RX7 311 (Bundle.initS EUOE), .instantiable EUOE 6, .castable EUOE EUOE, .selects EUOE Bundle.tFill0 Bundle.tFill0, .selects EUOE Bundle.tFill Bundle.tFill, .lays EUOE Bundle.tN "cause" "Ljava/lang/Throwable;", .lays EUOE Bundle.tN "stackTrace" Bundle.steD, .lays EUOE Bundle.tN "suppressedExceptions" Bundle.listD, .lays EUOE Bundle.tN "detailMessage" "Ljava/lang/String;", .isRef (.static Bundle.tN "UNASSIGNED_STACK" Bundle.steD), .isRef (.static Bundle.tN "SUPPRESSED_SENTINEL" Bundle.listD), .fieldLink Bundle.tN 198 Bundle.tN "backtrace" "Ljava/lang/Object;", .lays Bundle.tN Bundle.tN "backtrace" "Ljava/lang/Object;", .lays EUOE Bundle.tN "backtrace" "Ljava/lang/Object;"] : List Cond), vx_no w = true → w ∈ x_tbl ∨ w ∈ x_dcl := List.forall_mem_cons.mpr ⟨fun _ => Or.inl (x_w5 145 rfl rfl), List.forall_mem_cons.mpr ⟨fun _ => Or.inl (x_w5 136 rfl rfl), List.forall_mem_cons.mpr ⟨fun _ => Or.inr (List.mem_of_getElem? (i := 5) rfl), List.forall_mem_cons.mpr ⟨fun _ => Or.inl (x_w5 138 rfl rfl), List.forall_mem_cons.mpr ⟨fun _ => Or.inl (x_w2 103 rfl rfl), List.forall_mem_cons.mpr ⟨fun _ => Or.inl (x_w5 139 rfl rfl), List.forall_mem_cons.mpr ⟨fun _ => Or.inl (x_w5 140 rfl rfl), List.forall_mem_cons.mpr ⟨fun _ => Or.inl (x_w5 141 rfl rfl), List.forall_mem_cons.mpr ⟨fun _ => Or.inl (x_w5 142 rfl rfl), List.forall_mem_cons.mpr ⟨fun h => absurd h (by decide), List.forall_mem_cons.mpr ⟨fun h => absurd h (by decide), List.forall_mem_cons.mpr ⟨fun _ => Or.inl (x_w2 87 rfl rfl), List.forall_mem_cons.mpr ⟨fun _ => Or.inl (x_w2 86 rfl rfl), List.forall_mem_cons.mpr ⟨fun _ => Or.inl (x_w5 143 rfl rfl), fun _ h => absurd h List.not_mem_nil⟩⟩⟩⟩⟩⟩⟩⟩⟩⟩⟩⟩⟩⟩
theorem xthrUOE : XThr RX7 307 311 EUOE := by
  refine ⟨by decide, (x_w5 135 rfl rfl), (x_w1 22 rfl rfl), fun w hw => ?_⟩
  have hm := List.mem_filter.mp hw
  have hn := hm.2
  rcases List.mem_append.mp hm.1 with h | h
  · rcases List.mem_append.mp h with h | h
    · rcases List.mem_append.mp h with h | h
      · exact xthrT w h hn
      · exact xthrU w h hn
    · rcases List.mem_append.mp h with h | h
      · exact xthrUOE_a w h hn
      · rcases List.mem_append.mp h with h | h
        · exact xthrR w h hn
        · exact xthrX w h hn
  · exact xthrUOE_b w h hn
abbrev EIOB : String := "java/lang/IndexOutOfBoundsException"
theorem xthrIOB_a : ∀ w ∈ Bundle.passSAtoms EIOB "java/lang/RuntimeException" 7 Bundle.six, vx_no w = true → w ∈ x_tbl ∨ w ∈ x_dcl := List.forall_mem_cons.mpr ⟨fun _ => Or.inl (x_w2 158 rfl rfl), List.forall_mem_cons.mpr ⟨fun _ => Or.inl (x_w2 159 rfl rfl), List.forall_mem_cons.mpr ⟨fun _ => Or.inl (x_w2 160 rfl rfl), List.forall_mem_cons.mpr ⟨fun _ => Or.inl (x_w2 116 rfl rfl), List.forall_mem_cons.mpr ⟨fun _ => Or.inr (List.mem_of_getElem? (i := 0) rfl), fun _ h => absurd h List.not_mem_nil⟩⟩⟩⟩⟩
theorem xthrIOB_b : ∀ w ∈ ([.methodLink RX7 363 (Bundle.initS EIOB), .instantiable EIOB 6, .castable EIOB EIOB, .selects EIOB Bundle.tFill0 Bundle.tFill0, .selects EIOB Bundle.tFill Bundle.tFill, .lays EIOB Bundle.tN "cause" "Ljava/lang/Throwable;", .lays EIOB Bundle.tN "stackTrace" Bundle.steD, .lays EIOB Bundle.tN "suppressedExceptions" Bundle.listD, .lays EIOB Bundle.tN "detailMessage" "Ljava/lang/String;", .isRef (.static Bundle.tN "UNASSIGNED_STACK" Bundle.steD), .isRef (.static Bundle.tN "SUPPRESSED_SENTINEL" Bundle.listD), .fieldLink Bundle.tN 198 Bundle.tN "backtrace" "Ljava/lang/Object;", .lays Bundle.tN Bundle.tN "backtrace" "Ljava/lang/Object;", .lays EIOB Bundle.tN "backtrace" "Ljava/lang/Object;"] : List Cond), vx_no w = true → w ∈ x_tbl ∨ w ∈ x_dcl := List.forall_mem_cons.mpr ⟨fun _ => Or.inl (x_w2 200 rfl rfl), List.forall_mem_cons.mpr ⟨fun _ => Or.inl (x_w2 191 rfl rfl), List.forall_mem_cons.mpr ⟨fun _ => Or.inr (List.mem_of_getElem? (i := 6) rfl), List.forall_mem_cons.mpr ⟨fun _ => Or.inl (x_w2 193 rfl rfl), List.forall_mem_cons.mpr ⟨fun _ => Or.inl (x_w2 102 rfl rfl), List.forall_mem_cons.mpr ⟨fun _ => Or.inl (x_w2 194 rfl rfl), List.forall_mem_cons.mpr ⟨fun _ => Or.inl (x_w2 195 rfl rfl), List.forall_mem_cons.mpr ⟨fun _ => Or.inl (x_w2 196 rfl rfl), List.forall_mem_cons.mpr ⟨fun _ => Or.inl (x_w2 197 rfl rfl), List.forall_mem_cons.mpr ⟨fun h => absurd h (by decide), List.forall_mem_cons.mpr ⟨fun h => absurd h (by decide), List.forall_mem_cons.mpr ⟨fun _ => Or.inl (x_w2 87 rfl rfl), List.forall_mem_cons.mpr ⟨fun _ => Or.inl (x_w2 86 rfl rfl), List.forall_mem_cons.mpr ⟨fun _ => Or.inl (x_w2 198 rfl rfl), fun _ h => absurd h List.not_mem_nil⟩⟩⟩⟩⟩⟩⟩⟩⟩⟩⟩⟩⟩⟩
theorem xthrIOB : XThr RX7 359 363 EIOB := by
  refine ⟨by decide, (x_w2 190 rfl rfl), (x_w1 14 rfl rfl), fun w hw => ?_⟩
  have hm := List.mem_filter.mp hw
  have hn := hm.2
  rcases List.mem_append.mp hm.1 with h | h
  · rcases List.mem_append.mp h with h | h
    · rcases List.mem_append.mp h with h | h
      · exact xthrT w h hn
      · exact xthrU w h hn
    · rcases List.mem_append.mp h with h | h
      · exact xthrIOB_a w h hn
      · rcases List.mem_append.mp h with h | h
        · exact xthrR w h hn
        · exact xthrX w h hn
  · exact xthrIOB_b w h hn
abbrev EARE : String := "java/lang/ArithmeticException"
theorem xthrARE_a : ∀ w ∈ Bundle.passSAtoms EARE "java/lang/RuntimeException" 7 Bundle.six, vx_no w = true → w ∈ x_tbl ∨ w ∈ x_dcl := List.forall_mem_cons.mpr ⟨fun _ => Or.inl (x_w6 23 rfl rfl), List.forall_mem_cons.mpr ⟨fun _ => Or.inl (x_w6 24 rfl rfl), List.forall_mem_cons.mpr ⟨fun _ => Or.inl (x_w6 25 rfl rfl), List.forall_mem_cons.mpr ⟨fun _ => Or.inl (x_w2 116 rfl rfl), List.forall_mem_cons.mpr ⟨fun _ => Or.inr (List.mem_of_getElem? (i := 0) rfl), fun _ h => absurd h List.not_mem_nil⟩⟩⟩⟩⟩
theorem xthrARE_b : ∀ w ∈ ([.methodLink RX7 389 (Bundle.initS EARE), .instantiable EARE 6, .castable EARE EARE, .selects EARE Bundle.tFill0 Bundle.tFill0, .selects EARE Bundle.tFill Bundle.tFill, .lays EARE Bundle.tN "cause" "Ljava/lang/Throwable;", .lays EARE Bundle.tN "stackTrace" Bundle.steD, .lays EARE Bundle.tN "suppressedExceptions" Bundle.listD, .lays EARE Bundle.tN "detailMessage" "Ljava/lang/String;", .isRef (.static Bundle.tN "UNASSIGNED_STACK" Bundle.steD), .isRef (.static Bundle.tN "SUPPRESSED_SENTINEL" Bundle.listD), .fieldLink Bundle.tN 198 Bundle.tN "backtrace" "Ljava/lang/Object;", .lays Bundle.tN Bundle.tN "backtrace" "Ljava/lang/Object;", .lays EARE Bundle.tN "backtrace" "Ljava/lang/Object;"] : List Cond), vx_no w = true → w ∈ x_tbl ∨ w ∈ x_dcl := List.forall_mem_cons.mpr ⟨fun _ => Or.inl (x_w6 41 rfl rfl), List.forall_mem_cons.mpr ⟨fun _ => Or.inl (x_w6 22 rfl rfl), List.forall_mem_cons.mpr ⟨fun _ => Or.inr (List.mem_of_getElem? (i := 7) rfl), List.forall_mem_cons.mpr ⟨fun _ => Or.inl (x_w6 34 rfl rfl), List.forall_mem_cons.mpr ⟨fun _ => Or.inl (x_w2 99 rfl rfl), List.forall_mem_cons.mpr ⟨fun _ => Or.inl (x_w6 28 rfl rfl), List.forall_mem_cons.mpr ⟨fun _ => Or.inl (x_w6 29 rfl rfl), List.forall_mem_cons.mpr ⟨fun _ => Or.inl (x_w6 31 rfl rfl), List.forall_mem_cons.mpr ⟨fun _ => Or.inl (x_w6 27 rfl rfl), List.forall_mem_cons.mpr ⟨fun h => absurd h (by decide), List.forall_mem_cons.mpr ⟨fun h => absurd h (by decide), List.forall_mem_cons.mpr ⟨fun _ => Or.inl (x_w2 87 rfl rfl), List.forall_mem_cons.mpr ⟨fun _ => Or.inl (x_w2 86 rfl rfl), List.forall_mem_cons.mpr ⟨fun _ => Or.inl (x_w6 26 rfl rfl), fun _ h => absurd h List.not_mem_nil⟩⟩⟩⟩⟩⟩⟩⟩⟩⟩⟩⟩⟩⟩
theorem xthrARE : XThr RX7 385 389 EARE := by
  refine ⟨by decide, (x_w6 39 rfl rfl), (x_w1 23 rfl rfl), fun w hw => ?_⟩
  have hm := List.mem_filter.mp hw
  have hn := hm.2
  rcases List.mem_append.mp hm.1 with h | h
  · rcases List.mem_append.mp h with h | h
    · rcases List.mem_append.mp h with h | h
      · exact xthrT w h hn
      · exact xthrU w h hn
    · rcases List.mem_append.mp h with h | h
      · exact xthrARE_a w h hn
      · rcases List.mem_append.mp h with h | h
        · exact xthrR w h hn
        · exact xthrX w h hn
  · exact xthrARE_b w h hn
end S82
